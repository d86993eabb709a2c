theorem qw_4a9343ff4b : (Cond.methodLink R_Looker 163 yLooks_note) ∈ bs_W0 := bs_in (in_tables_1_3 (List.mem_of_getElem? (i := 169) rfl)) rfl
theorem qw_e1c79dd267 : (Cond.methodLink R_Looker 167 yLooks_setNumber) ∈ bs_W0 := bs_in (in_tables_1_3 (List.mem_of_getElem? (i := 170) rfl)) rfl
theorem qn_a213139c06 : (Cond.fieldLinkNest R_Looker 171 R_Looks "rows" "LTypeBook$Rows;" "TypeBook") ∈ lw_tbl := in_tables_1_1 (List.mem_of_getElem? (i := 211) rfl)
theorem qw_b9b967fb15 : (Cond.methodLink R_Looker 175 yRows_set) ∈ bs_W0 := bs_in (in_tables_1_3 (List.mem_of_getElem? (i := 175) rfl)) rfl
theorem qw_b381ab4f95 : (Cond.methodLink R_Looker 67 yTrees_firstOf) ∈ bs_W0 := bs_in (in_tables_1_3 (List.mem_of_getElem? (i := 47) rfl)) rfl
theorem qw_cd2627b7de : (Cond.methodLink R_Looker 120 yLooks_forget) ∈ bs_W0 := bs_in (in_tables_1_3 (List.mem_of_getElem? (i := 60) rfl)) rfl
theorem qw_3b1b00c0af : (Cond.fieldLink R_Looker 52 R_Looker "meanings" "LTypeBook$Meanings;") ∈ bs_W0 := bs_in (in_tables_1_2 (List.mem_of_getElem? (i := 31) rfl)) rfl
theorem qw_841e106d86 : (Cond.methodLink R_Looker 123 yMeanings_name) ∈ bs_W0 := bs_in (in_tables_1_3 (List.mem_of_getElem? (i := 61) rfl)) rfl
theorem qw_64cdf205e9 : (Cond.constant R_Looker 126 2147483647) ∈ bs_W0 := bs_in (in_tables_1_3 (List.mem_of_getElem? (i := 162) rfl)) rfl
theorem qw_79469fc119 : (Cond.methodLink R_Looker 127 yLooker_leaf) ∈ bs_W0 := bs_in (in_tables_1_3 (List.mem_of_getElem? (i := 163) rfl)) rfl
theorem qw_530ab62a99 : (Cond.methodLink R_Looker 131 yLooker_signs) ∈ bs_W0 := bs_in (in_tables_1_3 (List.mem_of_getElem? (i := 171) rfl)) rfl
theorem qw_818b7cddc8 : (Cond.methodLink R_Looker 134 yLooker_isOperator) ∈ bs_W0 := bs_in (in_tables_1_3 (List.mem_of_getElem? (i := 181) rfl)) rfl
theorem qw_859ddf9a22 : (Cond.fieldLink R_Looker 23 R_Looker "operators" "LTypeBook$Operators;") ∈ bs_W0 := bs_in (in_tables_1_2 (List.mem_of_getElem? (i := 30) rfl)) rfl
theorem qw_4f84b70a81 : (Cond.methodLink R_Looker 141 yOperators_unary) ∈ bs_W0 := bs_in (in_tables_1_3 (List.mem_of_getElem? (i := 185) rfl)) rfl
theorem qw_b6429af45c : (Cond.methodLink R_Looker 147 yOperators_binary) ∈ bs_W0 := bs_in (in_tables_1_3 (List.mem_of_getElem? (i := 230) rfl)) rfl
theorem qw_ad354f94c6 : (Cond.methodLink R_Looker 151 yMeanings_apply) ∈ bs_W0 := bs_in (in_tables_1_4 (List.mem_of_getElem? (i := 104) rfl)) rfl
theorem qw_ee93ba46af : (Cond.methodLink R_Looker 154 yMeanings_slice) ∈ bs_W0 := bs_in (in_tables_1_4 (List.mem_of_getElem? (i := 163) rfl)) rfl
theorem qw_19aeb78c12 : (Cond.methodLink R_Looker 157 yMeanings_attribute) ∈ bs_W0 := bs_in (in_tables_1_4 (List.mem_of_getElem? (i := 177) rfl)) rfl
theorem qw_afa922b076 : (Cond.methodLink R_Looks 47 yLooks_classOf) ∈ bs_W0 := bs_in (in_tables_1_4 (List.mem_of_getElem? (i := 231) rfl)) rfl
theorem qw_76af360b84 : (Cond.methodLink R_Looks 51 yLooks_extentOf) ∈ bs_W0 := bs_in (in_tables_1_4 (List.mem_of_getElem? (i := 232) rfl)) rfl
theorem qw_baacda067f : (Cond.methodLink R_Looks 54 yLooks_isFixed) ∈ bs_W0 := bs_in (in_tables_1_4 (List.mem_of_getElem? (i := 233) rfl)) rfl
theorem qw_a636540c8a : (Cond.methodLink R_Looks 57 yLooks_note) ∈ bs_W0 := bs_in (in_tables_1_4 (List.mem_of_getElem? (i := 234) rfl)) rfl
theorem qw_95efa8fed5 : (Cond.methodLink R_Looks 61 yLooks_meaningOf) ∈ bs_W0 := bs_in (in_tables_1_4 (List.mem_of_getElem? (i := 235) rfl)) rfl
theorem qw_fccdde971d : (Cond.methodLink R_Looks 64 yLooks_setMeaning) ∈ bs_W0 := bs_in (in_tables_1_4 (List.mem_of_getElem? (i := 236) rfl)) rfl
theorem qw_dce361ad2f : (Cond.methodLink R_Looks 68 yLooks_numberOf) ∈ bs_W0 := bs_in (in_tables_1_4 (List.mem_of_getElem? (i := 237) rfl)) rfl
theorem qw_58cf4eec0a : (Cond.methodLink R_Looks 71 yLooks_setNumber) ∈ bs_W0 := bs_in (in_tables_1_4 (List.mem_of_getElem? (i := 238) rfl)) rfl
theorem qw_50f3c1330a : (Cond.fieldLink R_Looks 32 R_Looks "rows" "LTypeBook$Rows;") ∈ bs_W0 := bs_in (in_tables_1_1 (List.mem_of_getElem? (i := 207) rfl)) rfl
theorem qw_4050b11111 : (Cond.methodLink R_Looks 74 yRows_copy) ∈ bs_W0 := bs_in (in_tables_1_4 (List.mem_of_getElem? (i := 239) rfl)) rfl
theorem qw_ce0ad21609 : (Cond.methodLink R_Objects 45 yLooks_numberOf) ∈ bs_W0 := bs_in (in_tables_1_5 (List.mem_of_getElem? (i := 94) rfl)) rfl
theorem qw_f4aeeaf054 : (Cond.fieldLink R_Objects 26 R_Objects "rows" "LTypeBook$Rows;") ∈ bs_W0 := bs_in (in_tables_1_1 (List.mem_of_getElem? (i := 179) rfl)) rfl
theorem qn_d9aceef3ce : (Cond.fieldLinkNest R_Objects 51 R_Looks "rows" "LTypeBook$Rows;" "TypeBook") ∈ lw_tbl := in_tables_1_1 (List.mem_of_getElem? (i := 210) rfl)
theorem qw_d8c0d69073 : (Cond.methodLink R_Objects 52 yRows_copy) ∈ bs_W0 := bs_in (in_tables_1_5 (List.mem_of_getElem? (i := 95) rfl)) rfl
set_option maxHeartbeats 4000000 in
set_option maxRecDepth 100000 in
theorem k_Looker_leaf (l : Launch) (γ : gE) (A : Nat → Prop) (κ : Nat → Nat) (x1 : Int32) (x2 : Int32) (x3 : Int32) : MU l yLooker_leaf bLooker_leaf 5 (some .int) 2 45 0 0 [.ref (γ.2.2.2 8), .int x1, .int x2, .int x3] γ A (INV γ A κ) (mQi (fun r H => True ∧ INV γ A κ H) A) := by
  refine mu_openI (by decide) (Nat.le_of_ble_eq_true rfl) ?_
  intro p e s m args below meth c ls Q S hnm hC hA hI hE hl
  obtain ⟨hx, hb, hml, hown, hW⟩ := id S
  have hS : va_S A s.heap s.heap [] := va_S.rf
  have hl : lv_has ls 5 [(0, .ref (γ.2.2.2 8)), (1, .int x1), (2, .int x2), (3, .int x3)] := hl
  refine lv_aload_n hx hb dLooker_leaf_0 rfl (lv_at hl 0 rfl) ?_
  refine of_get S hC (of_8_0 hI) in_Looker rfl (by decide) qw_22d2793f25 dLooker_leaf_1 ?_
  refine lv_iload_n hx hb dLooker_leaf_4 rfl (lv_at hl 1 rfl) ?_
  refine pu_Vi (rest := []) S hC (k1_Trees_valueOf l γ A κ x1) meTrees_valueOf qw_ea9162cf9a ⟨Nat.le_of_ble_eq_true rfl, Nat.le_of_ble_eq_true rfl⟩ (rv_1 hC hI) hI rfl hl.1 rfl (Nat.le_of_ble_eq_true rfl) dLooker_leaf_5 ⟨Nat.zero_le _, Nat.zero_le _⟩ (fun r8 hr8 => ?_)
  refine lv_istore (lv' := [(4, .int r8), (0, .ref (γ.2.2.2 8)), (1, .int x1), (2, .int x2), (3, .int x3)]) hx hb dLooker_leaf_8 hl (by decide) rfl (fun ls hl => ?_)
  refine lv_aload_n hx hb dLooker_leaf_10 rfl (lv_at hl 1 rfl) ?_
  refine of_get S hC (of_8_0 hI) in_Looker rfl (by decide) qw_22d2793f25 dLooker_leaf_11 ?_
  refine lv_iload_n hx hb dLooker_leaf_14 rfl (lv_at hl 2 rfl) ?_
  refine pu_Vi (rest := []) S hC (k1_Trees_countOf l γ A κ x1) meTrees_countOf qw_195048702c ⟨Nat.le_of_ble_eq_true rfl, Nat.le_of_ble_eq_true rfl⟩ (rv_1 hC hI) hI rfl hl.1 rfl (Nat.le_of_ble_eq_true rfl) dLooker_leaf_15 ⟨Nat.zero_le _, Nat.zero_le _⟩ (fun r9 hr9 => ?_)
  refine lv_if_ne (tgt := 32) hx hb dLooker_leaf_18 (by decide) (fun c10 => ?_) (fun c10 => ?_)
  · refine lv_bipush (v := 11) hx hb dLooker_leaf_32 (by decide) ?_
    exact hE _ _ _ _ _ hS ⟨trivial, hI⟩ dLooker_leaf_34
  · refine lv_iload hx hb dLooker_leaf_21 (lv_at hl 0 rfl) ?_
    refine lv_if_lt (tgt := 32) hx hb dLooker_leaf_23 (by decide) (fun c11 => ?_) (fun c11 => ?_)
    · refine lv_bipush (v := 11) hx hb dLooker_leaf_32 (by decide) ?_
      exact hE _ _ _ _ _ hS ⟨trivial, hI⟩ dLooker_leaf_34
    · refine lv_iload hx hb dLooker_leaf_26 (lv_at hl 0 rfl) ?_
      refine lv_iload_n hx hb dLooker_leaf_28 rfl (lv_at hl 4 rfl) ?_
      refine lv_icmp_le (tgt := 35) hx hb dLooker_leaf_29 (by decide) (fun c12 => ?_) (fun c12 => ?_)
      · refine lv_aload_n hx hb dLooker_leaf_35 rfl (lv_at hl 1 rfl) ?_
        refine of_get S hC (of_8_3 hI) in_Looker rfl (by decide) qw_77aeadf252 dLooker_leaf_36 ?_
        refine lv_iload_n hx hb dLooker_leaf_39 rfl (lv_at hl 2 rfl) ?_
        refine lv_iload_n hx hb dLooker_leaf_40 rfl (lv_at hl 3 rfl) ?_
        refine lv_iconst (v := 0) hx hb dLooker_leaf_41 (by decide) ?_
        refine lv_iconst (v := 1) hx hb dLooker_leaf_42 (by decide) ?_
        refine mu_Vv (rest := []) S hC (fun q h => hA q (Nat.le_trans hS.1 h)) (fun q h => h) hS (k9_Looks_note l γ A κ x1 x2 0 1) meLooks_note qw_4a9343ff4b ⟨Nat.le_of_ble_eq_true rfl, Nat.le_of_ble_eq_true rfl⟩ (rv_9 hC hI) hI rfl hl.1 rfl (Nat.le_of_ble_eq_true rfl) dLooker_leaf_43 ⟨Nat.le_refl _, Nat.le_refl _⟩ (fun H locs hI hS _ _ => ?_)
        refine lv_aload_n hx hb dLooker_leaf_46 rfl (lv_at hl 1 rfl) ?_
        refine of_get S hC (of_8_3 hI) in_Looker rfl (by decide) qw_77aeadf252 dLooker_leaf_47 ?_
        refine lv_iload_n hx hb dLooker_leaf_50 rfl (lv_at hl 2 rfl) ?_
        refine lv_iload hx hb dLooker_leaf_51 (lv_at hl 0 rfl) ?_
        refine mu_Vv (rest := []) S hC (fun q h => hA q (Nat.le_trans hS.1 h)) (fun q h => h) hS (k9_Looks_setNumber l γ A κ x1 r8) meLooks_setNumber qw_e1c79dd267 ⟨Nat.le_of_ble_eq_true rfl, Nat.le_of_ble_eq_true rfl⟩ (rv_9 hC hI) hI rfl hl.1 rfl (Nat.le_of_ble_eq_true rfl) dLooker_leaf_53 ⟨Nat.le_refl _, Nat.le_refl _⟩ (fun H locs hI hS _ _ => ?_)
        refine lv_iconst (v := 0) hx hb dLooker_leaf_56 (by decide) ?_
        exact hE _ _ _ _ _ hS ⟨trivial, hI⟩ dLooker_leaf_57
      · refine lv_bipush (v := 11) hx hb dLooker_leaf_32 (by decide) ?_
        exact hE _ _ _ _ _ hS ⟨trivial, hI⟩ dLooker_leaf_34

set_option maxHeartbeats 4000000 in
set_option maxRecDepth 100000 in
theorem k_Looker_signs (l : Launch) (γ : gE) (A : Nat → Prop) (κ : Nat → Nat) (x1 : Int32) : MU l yLooker_signs bLooker_signs 5 (some .int) 2 45 0 0 [.ref (γ.2.2.2 8), .int x1] γ A (INV γ A κ) (mQi (fun r H => True ∧ INV γ A κ H) A) := by
  refine mu_openI (by decide) (Nat.le_of_ble_eq_true rfl) ?_
  intro p e s m args below meth c ls Q S hnm hC hA hI hE hl
  obtain ⟨hx, hb, hml, hown, hW⟩ := id S
  have hS : va_S A s.heap s.heap [] := va_S.rf
  have hl : lv_has ls 5 [(0, .ref (γ.2.2.2 8)), (1, .int x1)] := hl
  have J30 : ∀ (N30 : Nat) (ls : Array Slot) (H : Heap) (locs : List Loc) (i1 : Int32) (i2 : Int32) (i3 : Int32) (i4 : Int32), INV γ A κ H → va_S A s.heap H locs → (2147483647 - i4.toInt).toNat = N30 → lv_has ls 5 [(0, .ref (γ.2.2.2 8)), (1, .int i1), (2, .int i2), (3, .int i3), (4, .int i4)] → W p l e (bs_rm 2 0 0 45) s m args below meth c H locs 0 0 Q (F0 m 30 ls []) := by
    intro N30
    induction N30 using Nat.strongRecOn with
    | ind N30 ih30 =>
      intro ls H locs i1 i2 i3 i4 hI hS hm30 hl
      refine lv_iload hx hb dLooker_signs_30 (lv_at hl 4 rfl) ?_
      refine lv_iload_n hx hb dLooker_signs_32 rfl (lv_at hl 2 rfl) ?_
      refine lv_icmp_ge (tgt := 89) hx hb dLooker_signs_33 (by decide) (fun c14 => ?_) (fun c14 => ?_)
      · refine lv_aload_n hx hb dLooker_signs_89 rfl (lv_at hl 0 rfl) ?_
        refine of_get S hC (of_8_3 hI) in_Looker rfl (by decide) qw_77aeadf252 dLooker_signs_90 ?_
        refine lv_iload_n hx hb dLooker_signs_93 rfl (lv_at hl 1 rfl) ?_
        refine lv_iconst (v := 3) hx hb dLooker_signs_94 (by decide) ?_
        refine lv_iload_n hx hb dLooker_signs_95 rfl (lv_at hl 2 rfl) ?_
        refine lv_iconst (v := 1) hx hb dLooker_signs_96 (by decide) ?_
        refine mu_Vv (rest := []) S hC (fun q h => hA q (Nat.le_trans hS.1 h)) (fun q h => h) hS (k9_Looks_note l γ A κ i1 3 i2 1) meLooks_note qw_4a9343ff4b ⟨Nat.le_of_ble_eq_true rfl, Nat.le_of_ble_eq_true rfl⟩ (rv_9 hC hI) hI rfl hl.1 rfl (Nat.le_of_ble_eq_true rfl) dLooker_signs_97 ⟨Nat.le_refl _, Nat.le_refl _⟩ (fun H locs hI hS _ _ => ?_)
        refine lv_iconst (v := 0) hx hb dLooker_signs_100 (by decide) ?_
        exact hE _ _ _ _ _ hS ⟨trivial, hI⟩ dLooker_signs_101
      · refine lv_aload_n hx hb dLooker_signs_36 rfl (lv_at hl 0 rfl) ?_
        refine of_get S hC (of_8_0 hI) in_Looker rfl (by decide) qw_22d2793f25 dLooker_signs_37 ?_
        refine lv_iload_n hx hb dLooker_signs_40 rfl (lv_at hl 3 rfl) ?_
        refine pu_Vi (rest := []) S hC (k1_Trees_kindOf l γ A κ i3) meTrees_kindOf qw_f48a4a6aed ⟨Nat.le_of_ble_eq_true rfl, Nat.le_of_ble_eq_true rfl⟩ (rv_1 hC hI) hI rfl hl.1 rfl (Nat.le_of_ble_eq_true rfl) dLooker_signs_41 ⟨Nat.zero_le _, Nat.zero_le _⟩ (fun r16 hr16 => ?_)
        refine lv_iconst (v := 3) hx hb dLooker_signs_44 (by decide) ?_
        refine lv_icmp_eq (tgt := 51) hx hb dLooker_signs_45 (by decide) (fun c17 => ?_) (fun c17 => ?_)
        · refine lv_aload_n hx hb dLooker_signs_51 rfl (lv_at hl 0 rfl) ?_
          refine of_get S hC (of_8_3 hI) in_Looker rfl (by decide) qw_77aeadf252 dLooker_signs_52 ?_
          refine of_getN S hC (of_9_5 hI) in_Looks rfl (by decide) qn_a213139c06 dLooker_signs_55 ?_
          refine lv_iload_n hx hb dLooker_signs_58 rfl (lv_at hl 1 rfl) ?_
          refine lv_iload hx hb dLooker_signs_59 (lv_at hl 4 rfl) ?_
          refine lv_aload_n hx hb dLooker_signs_61 rfl (lv_at hl 0 rfl) ?_
          refine of_get S hC (of_8_0 hI) in_Looker rfl (by decide) qw_22d2793f25 dLooker_signs_62 ?_
          refine lv_iload_n hx hb dLooker_signs_65 rfl (lv_at hl 3 rfl) ?_
          refine pu_Vi (rest := [.int i4, .int i1, .ref (γ.2.2.2 10)]) S hC (k1_Trees_valueOf l γ A κ i3) meTrees_valueOf qw_ea9162cf9a ⟨Nat.le_of_ble_eq_true rfl, Nat.le_of_ble_eq_true rfl⟩ (rv_1 hC hI) hI rfl hl.1 rfl (Nat.le_of_ble_eq_true rfl) dLooker_signs_66 ⟨Nat.zero_le _, Nat.zero_le _⟩ (fun r18 hr18 => ?_)
          refine mu_Vv (rest := []) S hC (fun q h => hA q (Nat.le_trans hS.1 h)) (fun q h => h) hS (k10_Rows_set l γ A κ i1 i4 r18) meRows_set qw_b9b967fb15 ⟨Nat.le_of_ble_eq_true rfl, Nat.le_of_ble_eq_true rfl⟩ (rv_10 hC hI) hI rfl hl.1 rfl (Nat.le_of_ble_eq_true rfl) dLooker_signs_69 ⟨Nat.le_refl _, Nat.le_refl _⟩ (fun H locs hI hS _ _ => ?_)
          refine lv_aload_n hx hb dLooker_signs_72 rfl (lv_at hl 0 rfl) ?_
          refine of_get S hC (of_8_0 hI) in_Looker rfl (by decide) qw_22d2793f25 dLooker_signs_73 ?_
          refine lv_iload_n hx hb dLooker_signs_76 rfl (lv_at hl 3 rfl) ?_
          refine pu_Vi (rest := []) S hC (k1_Trees_firstOf l γ A κ i3) meTrees_firstOf qw_b381ab4f95 ⟨Nat.le_of_ble_eq_true rfl, Nat.le_of_ble_eq_true rfl⟩ (rv_1 hC hI) hI rfl hl.1 rfl (Nat.le_of_ble_eq_true rfl) dLooker_signs_77 ⟨Nat.zero_le _, Nat.zero_le _⟩ (fun r20 hr20 => ?_)
          refine lv_iconst (v := 1) hx hb dLooker_signs_80 (by decide) ?_
          refine lv_isub hx hb dLooker_signs_81 ?_
          refine lv_topi (fun v21 ev21 => ?_)
          refine lv_istore_n (lv' := [(3, .int v21), (0, .ref (γ.2.2.2 8)), (1, .int i1), (2, .int i2), (4, .int i4)]) hx hb dLooker_signs_82 rfl hl (by decide) rfl (fun ls hl => ?_)
          obtain ⟨v22, ev22⟩ : ∃ y : Int32, y = i4 + 1 := ⟨_, rfl⟩
          refine lv_iinc (v := v22) (lv' := [(4, .int v22), (3, .int v21), (0, .ref (γ.2.2.2 8)), (1, .int i1), (2, .int i2)]) hx hb dLooker_signs_83 hl (k := 4) rfl (by rw [ev22]; rfl) (by decide) rfl (fun ls hl => ?_)
          refine lv_goto (tgt := 30) hx hb dLooker_signs_86 (by decide) ?_
          exact ih30 _ (by have q1 : i4.toInt < 2147483647 := (by first | exact (mu_up (k := i4) (by assumption)).2 | assumption); have q2 := mu_lt q1; rw [← ev22] at q2; omega) ls _ _ i1 i2 v21 v22 hI hS rfl (lv_sub hl [2, 3, 4, 1, 0] rfl)
        · refine lv_bipush (v := 11) hx hb dLooker_signs_48 (by decide) ?_
          exact hE _ _ _ _ _ hS ⟨trivial, hI⟩ dLooker_signs_50
  refine lv_aload_n hx hb dLooker_signs_0 rfl (lv_at hl 0 rfl) ?_
  refine of_get S hC (of_8_0 hI) in_Looker rfl (by decide) qw_22d2793f25 dLooker_signs_1 ?_
  refine lv_iload_n hx hb dLooker_signs_4 rfl (lv_at hl 1 rfl) ?_
  refine pu_Vi (rest := []) S hC (k1_Trees_countOf l γ A κ x1) meTrees_countOf qw_195048702c ⟨Nat.le_of_ble_eq_true rfl, Nat.le_of_ble_eq_true rfl⟩ (rv_1 hC hI) hI rfl hl.1 rfl (Nat.le_of_ble_eq_true rfl) dLooker_signs_5 ⟨Nat.zero_le _, Nat.zero_le _⟩ (fun r23 hr23 => ?_)
  refine lv_istore_n (lv' := [(2, .int r23), (0, .ref (γ.2.2.2 8)), (1, .int x1)]) hx hb dLooker_signs_8 rfl hl (by decide) rfl (fun ls hl => ?_)
  refine lv_iload_n hx hb dLooker_signs_9 rfl (lv_at hl 0 rfl) ?_
  refine lv_iconst (v := 1) hx hb dLooker_signs_10 (by decide) ?_
  refine lv_icmp_lt (tgt := 20) hx hb dLooker_signs_11 (by decide) (fun c24 => ?_) (fun c24 => ?_)
  · refine lv_bipush (v := 11) hx hb dLooker_signs_20 (by decide) ?_
    exact hE _ _ _ _ _ hS ⟨trivial, hI⟩ dLooker_signs_22
  · refine lv_iload_n hx hb dLooker_signs_14 rfl (lv_at hl 0 rfl) ?_
    refine lv_bipush (v := 64) hx hb dLooker_signs_15 (by decide) ?_
    refine lv_icmp_le (tgt := 23) hx hb dLooker_signs_17 (by decide) (fun c25 => ?_) (fun c25 => ?_)
    · refine lv_iload_n hx hb dLooker_signs_23 rfl (lv_at hl 2 rfl) ?_
      refine lv_iconst (v := 1) hx hb dLooker_signs_24 (by decide) ?_
      refine lv_isub hx hb dLooker_signs_25 ?_
      refine lv_topi (fun v26 ev26 => ?_)
      refine lv_istore_n (lv' := [(3, .int v26), (2, .int r23), (0, .ref (γ.2.2.2 8)), (1, .int x1)]) hx hb dLooker_signs_26 rfl hl (by decide) rfl (fun ls hl => ?_)
      refine lv_iconst (v := 0) hx hb dLooker_signs_27 (by decide) ?_
      refine lv_istore (lv' := [(4, .int 0), (3, .int v26), (2, .int r23), (0, .ref (γ.2.2.2 8)), (1, .int x1)]) hx hb dLooker_signs_28 hl (by decide) rfl (fun ls hl => ?_)
      exact J30 _ ls _ _ x1 r23 v26 0 hI hS rfl (lv_sub hl [3, 4, 2, 1, 0] rfl)
    · refine lv_bipush (v := 11) hx hb dLooker_signs_20 (by decide) ?_
      exact hE _ _ _ _ _ hS ⟨trivial, hI⟩ dLooker_signs_22

set_option maxHeartbeats 4000000 in
set_option maxRecDepth 100000 in
theorem k_Looker_lookAt (l : Launch) (γ : gE) (A : Nat → Prop) (κ : Nat → Nat) (x1 : Int32) : MU l yLooker_lookAt bLooker_lookAt 2 (some .int) 5 129 0 0 [.ref (γ.2.2.2 8), .int x1] γ A (INV γ A κ) (mQi (fun r H => True ∧ INV γ A κ H) A) := by
  refine mu_openI (by decide) (Nat.le_of_ble_eq_true rfl) ?_
  intro p e s m args below meth c ls Q S hnm hC hA hI hE hl
  obtain ⟨hx, hb, hml, hown, hW⟩ := id S
  have hS : va_S A s.heap s.heap [] := va_S.rf
  have hl : lv_has ls 2 [(0, .ref (γ.2.2.2 8)), (1, .int x1)] := hl
  refine lv_aload_n hx hb dLooker_lookAt_0 rfl (lv_at hl 0 rfl) ?_
  refine of_get S hC (of_8_3 hI) in_Looker rfl (by decide) qw_77aeadf252 dLooker_lookAt_1 ?_
  refine lv_iload_n hx hb dLooker_lookAt_4 rfl (lv_at hl 1 rfl) ?_
  refine mu_Vv (rest := []) S hC (fun q h => hA q (Nat.le_trans hS.1 h)) (fun q h => h) hS (k9_Looks_forget l γ A κ x1) meLooks_forget qw_cd2627b7de ⟨Nat.le_of_ble_eq_true rfl, Nat.le_of_ble_eq_true rfl⟩ (rv_9 hC hI) hI rfl hl.1 rfl (Nat.le_of_ble_eq_true rfl) dLooker_lookAt_5 ⟨Nat.le_refl _, Nat.le_refl _⟩ (fun H locs hI hS _ _ => ?_)
  refine lv_aload_n hx hb dLooker_lookAt_8 rfl (lv_at hl 0 rfl) ?_
  refine of_get S hC (of_8_0 hI) in_Looker rfl (by decide) qw_22d2793f25 dLooker_lookAt_9 ?_
  refine lv_iload_n hx hb dLooker_lookAt_12 rfl (lv_at hl 1 rfl) ?_
  refine pu_Vi (rest := []) S hC (k1_Trees_kindOf l γ A κ x1) meTrees_kindOf qw_f48a4a6aed ⟨Nat.le_of_ble_eq_true rfl, Nat.le_of_ble_eq_true rfl⟩ (rv_1 hC hI) hI rfl hl.1 rfl (Nat.le_of_ble_eq_true rfl) dLooker_lookAt_13 ⟨Nat.zero_le _, Nat.zero_le _⟩ (fun r48 hr48 => ?_)
  by_cases k49 : r48 = 1
  · subst k49
    refine lv_tableIn (tgt := 132) hx hb dLooker_lookAt_16 (by decide) (by decide) rfl (by decide) ?_
    refine lv_aload_n hx hb dLooker_lookAt_132 rfl (lv_at hl 0 rfl) ?_
    refine of_get S hC (of_8_5 hI) in_Looker rfl (by decide) qw_3b1b00c0af dLooker_lookAt_133 ?_
    refine lv_iload_n hx hb dLooker_lookAt_136 rfl (lv_at hl 1 rfl) ?_
    refine mu_Vi (rest := []) S hC (fun q h => hA q (Nat.le_trans hS.1 h)) (fun q h => h) hS (k_Meanings_name l γ A κ x1) meMeanings_name qw_841e106d86 ⟨Nat.le_of_ble_eq_true rfl, Nat.le_of_ble_eq_true rfl⟩ (rv_12 hC hI) hI rfl hl.1 rfl (Nat.le_of_ble_eq_true rfl) dLooker_lookAt_137 ⟨Nat.le_refl _, Nat.le_refl _⟩ (fun r50 H locs ⟨hr50, hI⟩ hS _ _ => ?_)
    exact hE _ _ _ _ _ hS ⟨trivial, hI⟩ dLooker_lookAt_140
  by_cases k51 : r48 = 2
  · subst k51
    refine lv_tableIn (tgt := 141) hx hb dLooker_lookAt_16 (by decide) (by decide) rfl (by decide) ?_
    refine lv_aload_n hx hb dLooker_lookAt_141 rfl (lv_at hl 0 rfl) ?_
    refine lv_iload_n hx hb dLooker_lookAt_142 rfl (lv_at hl 1 rfl) ?_
    refine lv_iconst (v := 2) hx hb dLooker_lookAt_143 (by decide) ?_
    refine lv_ldc (v := 2147483647) hx hb hown (hW _ qw_64cdf205e9) dLooker_lookAt_144 ?_
    refine mu_Vi (rest := []) S hC (fun q h => hA q (Nat.le_trans hS.1 h)) (fun q h => h) hS (k_Looker_leaf l γ A κ x1 2 2147483647) meLooker_leaf qw_79469fc119 ⟨Nat.le_of_ble_eq_true rfl, Nat.le_of_ble_eq_true rfl⟩ (rv_8 hC hI) hI rfl hl.1 rfl (Nat.le_of_ble_eq_true rfl) dLooker_lookAt_146 ⟨Nat.le_refl _, Nat.le_refl _⟩ (fun r52 H locs ⟨hr52, hI⟩ hS _ _ => ?_)
    exact hE _ _ _ _ _ hS ⟨trivial, hI⟩ dLooker_lookAt_149
  by_cases k53 : r48 = 3
  · subst k53
    refine lv_tableIn (tgt := 150) hx hb dLooker_lookAt_16 (by decide) (by decide) rfl (by decide) ?_
    refine lv_aload_n hx hb dLooker_lookAt_150 rfl (lv_at hl 0 rfl) ?_
    refine lv_iload_n hx hb dLooker_lookAt_151 rfl (lv_at hl 1 rfl) ?_
    refine lv_iconst (v := 0) hx hb dLooker_lookAt_152 (by decide) ?_
    refine lv_bipush (v := 8) hx hb dLooker_lookAt_153 (by decide) ?_
    refine mu_Vi (rest := []) S hC (fun q h => hA q (Nat.le_trans hS.1 h)) (fun q h => h) hS (k_Looker_leaf l γ A κ x1 0 8) meLooker_leaf qw_79469fc119 ⟨Nat.le_of_ble_eq_true rfl, Nat.le_of_ble_eq_true rfl⟩ (rv_8 hC hI) hI rfl hl.1 rfl (Nat.le_of_ble_eq_true rfl) dLooker_lookAt_155 ⟨Nat.le_refl _, Nat.le_refl _⟩ (fun r54 H locs ⟨hr54, hI⟩ hS _ _ => ?_)
    exact hE _ _ _ _ _ hS ⟨trivial, hI⟩ dLooker_lookAt_158
  by_cases k55 : r48 = 4
  · subst k55
    refine lv_tableIn (tgt := 159) hx hb dLooker_lookAt_16 (by decide) (by decide) rfl (by decide) ?_
    refine lv_aload_n hx hb dLooker_lookAt_159 rfl (lv_at hl 0 rfl) ?_
    refine lv_iload_n hx hb dLooker_lookAt_160 rfl (lv_at hl 1 rfl) ?_
    refine mu_Vi (rest := []) S hC (fun q h => hA q (Nat.le_trans hS.1 h)) (fun q h => h) hS (k_Looker_signs l γ A κ x1) meLooker_signs qw_530ab62a99 ⟨Nat.le_of_ble_eq_true rfl, Nat.le_of_ble_eq_true rfl⟩ (rv_8 hC hI) hI rfl hl.1 rfl (Nat.le_of_ble_eq_true rfl) dLooker_lookAt_161 ⟨Nat.le_refl _, Nat.le_refl _⟩ (fun r56 H locs ⟨hr56, hI⟩ hS _ _ => ?_)
    exact hE _ _ _ _ _ hS ⟨trivial, hI⟩ dLooker_lookAt_164
  by_cases k57 : r48 = 5
  · subst k57
    refine lv_tableIn (tgt := 271) hx hb dLooker_lookAt_16 (by decide) (by decide) rfl (by decide) ?_
    refine lv_bipush (v := 11) hx hb dLooker_lookAt_271 (by decide) ?_
    exact hE _ _ _ _ _ hS ⟨trivial, hI⟩ dLooker_lookAt_273
  by_cases k58 : r48 = 6
  · subst k58
    refine lv_tableIn (tgt := 271) hx hb dLooker_lookAt_16 (by decide) (by decide) rfl (by decide) ?_
    refine lv_bipush (v := 11) hx hb dLooker_lookAt_271 (by decide) ?_
    exact hE _ _ _ _ _ hS ⟨trivial, hI⟩ dLooker_lookAt_273
  by_cases k59 : r48 = 7
  · subst k59
    refine lv_tableIn (tgt := 271) hx hb dLooker_lookAt_16 (by decide) (by decide) rfl (by decide) ?_
    refine lv_bipush (v := 11) hx hb dLooker_lookAt_271 (by decide) ?_
    exact hE _ _ _ _ _ hS ⟨trivial, hI⟩ dLooker_lookAt_273
  by_cases k60 : r48 = 8
  · subst k60
    refine lv_tableIn (tgt := 271) hx hb dLooker_lookAt_16 (by decide) (by decide) rfl (by decide) ?_
    refine lv_bipush (v := 11) hx hb dLooker_lookAt_271 (by decide) ?_
    exact hE _ _ _ _ _ hS ⟨trivial, hI⟩ dLooker_lookAt_273
  by_cases k61 : r48 = 9
  · subst k61
    refine lv_tableIn (tgt := 271) hx hb dLooker_lookAt_16 (by decide) (by decide) rfl (by decide) ?_
    refine lv_bipush (v := 11) hx hb dLooker_lookAt_271 (by decide) ?_
    exact hE _ _ _ _ _ hS ⟨trivial, hI⟩ dLooker_lookAt_273
  by_cases k62 : r48 = 10
  · subst k62
    refine lv_tableIn (tgt := 271) hx hb dLooker_lookAt_16 (by decide) (by decide) rfl (by decide) ?_
    refine lv_bipush (v := 11) hx hb dLooker_lookAt_271 (by decide) ?_
    exact hE _ _ _ _ _ hS ⟨trivial, hI⟩ dLooker_lookAt_273
  by_cases k63 : r48 = 11
  · subst k63
    refine lv_tableIn (tgt := 271) hx hb dLooker_lookAt_16 (by decide) (by decide) rfl (by decide) ?_
    refine lv_bipush (v := 11) hx hb dLooker_lookAt_271 (by decide) ?_
    exact hE _ _ _ _ _ hS ⟨trivial, hI⟩ dLooker_lookAt_273
  by_cases k64 : r48 = 12
  · subst k64
    refine lv_tableIn (tgt := 271) hx hb dLooker_lookAt_16 (by decide) (by decide) rfl (by decide) ?_
    refine lv_bipush (v := 11) hx hb dLooker_lookAt_271 (by decide) ?_
    exact hE _ _ _ _ _ hS ⟨trivial, hI⟩ dLooker_lookAt_273
  by_cases k65 : r48 = 13
  · subst k65
    refine lv_tableIn (tgt := 271) hx hb dLooker_lookAt_16 (by decide) (by decide) rfl (by decide) ?_
    refine lv_bipush (v := 11) hx hb dLooker_lookAt_271 (by decide) ?_
    exact hE _ _ _ _ _ hS ⟨trivial, hI⟩ dLooker_lookAt_273
  by_cases k66 : r48 = 14
  · subst k66
    refine lv_tableIn (tgt := 271) hx hb dLooker_lookAt_16 (by decide) (by decide) rfl (by decide) ?_
    refine lv_bipush (v := 11) hx hb dLooker_lookAt_271 (by decide) ?_
    exact hE _ _ _ _ _ hS ⟨trivial, hI⟩ dLooker_lookAt_273
  by_cases k67 : r48 = 15
  · subst k67
    refine lv_tableIn (tgt := 271) hx hb dLooker_lookAt_16 (by decide) (by decide) rfl (by decide) ?_
    refine lv_bipush (v := 11) hx hb dLooker_lookAt_271 (by decide) ?_
    exact hE _ _ _ _ _ hS ⟨trivial, hI⟩ dLooker_lookAt_273
  by_cases k68 : r48 = 16
  · subst k68
    refine lv_tableIn (tgt := 271) hx hb dLooker_lookAt_16 (by decide) (by decide) rfl (by decide) ?_
    refine lv_bipush (v := 11) hx hb dLooker_lookAt_271 (by decide) ?_
    exact hE _ _ _ _ _ hS ⟨trivial, hI⟩ dLooker_lookAt_273
  by_cases k69 : r48 = 17
  · subst k69
    refine lv_tableIn (tgt := 271) hx hb dLooker_lookAt_16 (by decide) (by decide) rfl (by decide) ?_
    refine lv_bipush (v := 11) hx hb dLooker_lookAt_271 (by decide) ?_
    exact hE _ _ _ _ _ hS ⟨trivial, hI⟩ dLooker_lookAt_273
  by_cases k70 : r48 = 18
  · subst k70
    refine lv_tableIn (tgt := 271) hx hb dLooker_lookAt_16 (by decide) (by decide) rfl (by decide) ?_
    refine lv_bipush (v := 11) hx hb dLooker_lookAt_271 (by decide) ?_
    exact hE _ _ _ _ _ hS ⟨trivial, hI⟩ dLooker_lookAt_273
  by_cases k71 : r48 = 19
  · subst k71
    refine lv_tableIn (tgt := 271) hx hb dLooker_lookAt_16 (by decide) (by decide) rfl (by decide) ?_
    refine lv_bipush (v := 11) hx hb dLooker_lookAt_271 (by decide) ?_
    exact hE _ _ _ _ _ hS ⟨trivial, hI⟩ dLooker_lookAt_273
  by_cases k72 : r48 = 20
  · subst k72
    refine lv_tableIn (tgt := 165) hx hb dLooker_lookAt_16 (by decide) (by decide) rfl (by decide) ?_
    refine lv_aload_n hx hb dLooker_lookAt_165 rfl (lv_at hl 0 rfl) ?_
    refine lv_iload_n hx hb dLooker_lookAt_166 rfl (lv_at hl 1 rfl) ?_
    refine lv_iconst (v := 1) hx hb dLooker_lookAt_167 (by decide) ?_
    refine lv_iconst (v := 3) hx hb dLooker_lookAt_168 (by decide) ?_
    refine pu_Vi (rest := []) S hC (k_Looker_isOperator l γ A κ x1 1 3) meLooker_isOperator qw_818b7cddc8 ⟨Nat.le_of_ble_eq_true rfl, Nat.le_of_ble_eq_true rfl⟩ (rv_8 hC hI) hI rfl hl.1 rfl (Nat.le_of_ble_eq_true rfl) dLooker_lookAt_169 ⟨Nat.zero_le _, Nat.zero_le _⟩ (fun r73 hr73 => ?_)
    refine lv_if_eq (tgt := 197) hx hb dLooker_lookAt_172 (by decide) (fun c74 => ?_) (fun c74 => ?_)
    · refine lv_bipush (v := 11) hx hb dLooker_lookAt_197 (by decide) ?_
      exact hE _ _ _ _ _ hS ⟨trivial, hI⟩ dLooker_lookAt_199
    · refine lv_aload_n hx hb dLooker_lookAt_175 rfl (lv_at hl 0 rfl) ?_
      refine of_get S hC (of_8_4 hI) in_Looker rfl (by decide) qw_859ddf9a22 dLooker_lookAt_176 ?_
      refine lv_iload_n hx hb dLooker_lookAt_179 rfl (lv_at hl 1 rfl) ?_
      refine lv_aload_n hx hb dLooker_lookAt_180 rfl (lv_at hl 0 rfl) ?_
      refine of_get S hC (of_8_0 hI) in_Looker rfl (by decide) qw_22d2793f25 dLooker_lookAt_181 ?_
      refine lv_iload_n hx hb dLooker_lookAt_184 rfl (lv_at hl 1 rfl) ?_
      refine pu_Vi (rest := [.int x1, .ref (γ.2.2.2 11)]) S hC (k1_Trees_valueOf l γ A κ x1) meTrees_valueOf qw_ea9162cf9a ⟨Nat.le_of_ble_eq_true rfl, Nat.le_of_ble_eq_true rfl⟩ (rv_1 hC hI) hI rfl hl.1 rfl (Nat.le_of_ble_eq_true rfl) dLooker_lookAt_185 ⟨Nat.zero_le _, Nat.zero_le _⟩ (fun r75 hr75 => ?_)
      refine lv_iload_n hx hb dLooker_lookAt_188 rfl (lv_at hl 1 rfl) ?_
      refine lv_iconst (v := 1) hx hb dLooker_lookAt_189 (by decide) ?_
      refine lv_isub hx hb dLooker_lookAt_190 ?_
      refine lv_topi (fun v76 ev76 => ?_)
      refine mu_Vi (rest := []) S hC (fun q h => hA q (Nat.le_trans hS.1 h)) (fun q h => h) hS (k_Operators_unary l γ A κ x1 r75 v76) meOperators_unary qw_4f84b70a81 ⟨Nat.le_of_ble_eq_true rfl, Nat.le_of_ble_eq_true rfl⟩ (rv_11 hC hI) hI rfl hl.1 rfl (Nat.le_of_ble_eq_true rfl) dLooker_lookAt_191 ⟨Nat.le_refl _, Nat.le_refl _⟩ (fun r77 H locs ⟨hr77, hI⟩ hS _ _ => ?_)
      refine lv_goto (tgt := 199) hx hb dLooker_lookAt_194 (by decide) ?_
      exact hE _ _ _ _ _ hS ⟨trivial, hI⟩ dLooker_lookAt_199
  by_cases k78 : r48 = 21
  · subst k78
    refine lv_tableIn (tgt := 200) hx hb dLooker_lookAt_16 (by decide) (by decide) rfl (by decide) ?_
    refine lv_aload_n hx hb dLooker_lookAt_200 rfl (lv_at hl 0 rfl) ?_
    refine lv_iload_n hx hb dLooker_lookAt_201 rfl (lv_at hl 1 rfl) ?_
    refine lv_iconst (v := 2) hx hb dLooker_lookAt_202 (by decide) ?_
    refine lv_bipush (v := 20) hx hb dLooker_lookAt_203 (by decide) ?_
    refine pu_Vi (rest := []) S hC (k_Looker_isOperator l γ A κ x1 2 20) meLooker_isOperator qw_818b7cddc8 ⟨Nat.le_of_ble_eq_true rfl, Nat.le_of_ble_eq_true rfl⟩ (rv_8 hC hI) hI rfl hl.1 rfl (Nat.le_of_ble_eq_true rfl) dLooker_lookAt_205 ⟨Nat.zero_le _, Nat.zero_le _⟩ (fun r79 hr79 => ?_)
    refine lv_if_eq (tgt := 241) hx hb dLooker_lookAt_208 (by decide) (fun c80 => ?_) (fun c80 => ?_)
    · refine lv_bipush (v := 11) hx hb dLooker_lookAt_241 (by decide) ?_
      exact hE _ _ _ _ _ hS ⟨trivial, hI⟩ dLooker_lookAt_243
    · refine lv_aload_n hx hb dLooker_lookAt_211 rfl (lv_at hl 0 rfl) ?_
      refine of_get S hC (of_8_4 hI) in_Looker rfl (by decide) qw_859ddf9a22 dLooker_lookAt_212 ?_
      refine lv_iload_n hx hb dLooker_lookAt_215 rfl (lv_at hl 1 rfl) ?_
      refine lv_aload_n hx hb dLooker_lookAt_216 rfl (lv_at hl 0 rfl) ?_
      refine of_get S hC (of_8_0 hI) in_Looker rfl (by decide) qw_22d2793f25 dLooker_lookAt_217 ?_
      refine lv_iload_n hx hb dLooker_lookAt_220 rfl (lv_at hl 1 rfl) ?_
      refine pu_Vi (rest := [.int x1, .ref (γ.2.2.2 11)]) S hC (k1_Trees_valueOf l γ A κ x1) meTrees_valueOf qw_ea9162cf9a ⟨Nat.le_of_ble_eq_true rfl, Nat.le_of_ble_eq_true rfl⟩ (rv_1 hC hI) hI rfl hl.1 rfl (Nat.le_of_ble_eq_true rfl) dLooker_lookAt_221 ⟨Nat.zero_le _, Nat.zero_le _⟩ (fun r81 hr81 => ?_)
      refine lv_aload_n hx hb dLooker_lookAt_224 rfl (lv_at hl 0 rfl) ?_
      refine of_get S hC (of_8_0 hI) in_Looker rfl (by decide) qw_22d2793f25 dLooker_lookAt_225 ?_
      refine lv_iload_n hx hb dLooker_lookAt_228 rfl (lv_at hl 1 rfl) ?_
      refine pu_Vi (rest := [.int r81, .int x1, .ref (γ.2.2.2 11)]) S hC (k1_Trees_leftOfTwo l γ A κ x1) meTrees_leftOfTwo qw_844ff72d87 ⟨Nat.le_of_ble_eq_true rfl, Nat.le_of_ble_eq_true rfl⟩ (rv_1 hC hI) hI rfl hl.1 rfl (Nat.le_of_ble_eq_true rfl) dLooker_lookAt_229 ⟨Nat.zero_le _, Nat.zero_le _⟩ (fun r82 hr82 => ?_)
      refine lv_iload_n hx hb dLooker_lookAt_232 rfl (lv_at hl 1 rfl) ?_
      refine lv_iconst (v := 1) hx hb dLooker_lookAt_233 (by decide) ?_
      refine lv_isub hx hb dLooker_lookAt_234 ?_
      refine lv_topi (fun v83 ev83 => ?_)
      refine mu_Vi (rest := []) S hC (fun q h => hA q (Nat.le_trans hS.1 h)) (fun q h => h) hS (k_Operators_binary l γ A κ x1 r81 r82 v83) meOperators_binary qw_b6429af45c ⟨Nat.le_of_ble_eq_true rfl, Nat.le_of_ble_eq_true rfl⟩ (rv_11 hC hI) hI rfl hl.1 rfl (Nat.le_of_ble_eq_true rfl) dLooker_lookAt_235 ⟨Nat.le_refl _, Nat.le_refl _⟩ (fun r84 H locs ⟨hr84, hI⟩ hS _ _ => ?_)
      refine lv_goto (tgt := 243) hx hb dLooker_lookAt_238 (by decide) ?_
      exact hE _ _ _ _ _ hS ⟨trivial, hI⟩ dLooker_lookAt_243
  by_cases k85 : r48 = 22
  · subst k85
    refine lv_tableIn (tgt := 244) hx hb dLooker_lookAt_16 (by decide) (by decide) rfl (by decide) ?_
    refine lv_aload_n hx hb dLooker_lookAt_244 rfl (lv_at hl 0 rfl) ?_
    refine of_get S hC (of_8_5 hI) in_Looker rfl (by decide) qw_3b1b00c0af dLooker_lookAt_245 ?_
    refine lv_iload_n hx hb dLooker_lookAt_248 rfl (lv_at hl 1 rfl) ?_
    refine mu_Vi (rest := []) S hC (fun q h => hA q (Nat.le_trans hS.1 h)) (fun q h => h) hS (k_Meanings_apply l γ A κ x1) meMeanings_apply qw_ad354f94c6 ⟨Nat.le_of_ble_eq_true rfl, Nat.le_of_ble_eq_true rfl⟩ (rv_12 hC hI) hI rfl hl.1 rfl (Nat.le_of_ble_eq_true rfl) dLooker_lookAt_249 ⟨Nat.le_refl _, Nat.le_refl _⟩ (fun r86 H locs ⟨hr86, hI⟩ hS _ _ => ?_)
    exact hE _ _ _ _ _ hS ⟨trivial, hI⟩ dLooker_lookAt_252
  by_cases k87 : r48 = 23
  · subst k87
    refine lv_tableIn (tgt := 253) hx hb dLooker_lookAt_16 (by decide) (by decide) rfl (by decide) ?_
    refine lv_aload_n hx hb dLooker_lookAt_253 rfl (lv_at hl 0 rfl) ?_
    refine of_get S hC (of_8_5 hI) in_Looker rfl (by decide) qw_3b1b00c0af dLooker_lookAt_254 ?_
    refine lv_iload_n hx hb dLooker_lookAt_257 rfl (lv_at hl 1 rfl) ?_
    refine mu_Vi (rest := []) S hC (fun q h => hA q (Nat.le_trans hS.1 h)) (fun q h => h) hS (k_Meanings_slice l γ A κ x1) meMeanings_slice qw_ee93ba46af ⟨Nat.le_of_ble_eq_true rfl, Nat.le_of_ble_eq_true rfl⟩ (rv_12 hC hI) hI rfl hl.1 rfl (Nat.le_of_ble_eq_true rfl) dLooker_lookAt_258 ⟨Nat.le_refl _, Nat.le_refl _⟩ (fun r88 H locs ⟨hr88, hI⟩ hS _ _ => ?_)
    exact hE _ _ _ _ _ hS ⟨trivial, hI⟩ dLooker_lookAt_261
  by_cases k89 : r48 = 24
  · subst k89
    refine lv_tableIn (tgt := 253) hx hb dLooker_lookAt_16 (by decide) (by decide) rfl (by decide) ?_
    refine lv_aload_n hx hb dLooker_lookAt_253 rfl (lv_at hl 0 rfl) ?_
    refine of_get S hC (of_8_5 hI) in_Looker rfl (by decide) qw_3b1b00c0af dLooker_lookAt_254 ?_
    refine lv_iload_n hx hb dLooker_lookAt_257 rfl (lv_at hl 1 rfl) ?_
    refine mu_Vi (rest := []) S hC (fun q h => hA q (Nat.le_trans hS.1 h)) (fun q h => h) hS (k_Meanings_slice l γ A κ x1) meMeanings_slice qw_ee93ba46af ⟨Nat.le_of_ble_eq_true rfl, Nat.le_of_ble_eq_true rfl⟩ (rv_12 hC hI) hI rfl hl.1 rfl (Nat.le_of_ble_eq_true rfl) dLooker_lookAt_258 ⟨Nat.le_refl _, Nat.le_refl _⟩ (fun r90 H locs ⟨hr90, hI⟩ hS _ _ => ?_)
    exact hE _ _ _ _ _ hS ⟨trivial, hI⟩ dLooker_lookAt_261
  by_cases k91 : r48 = 25
  · subst k91
    refine lv_tableIn (tgt := 262) hx hb dLooker_lookAt_16 (by decide) (by decide) rfl (by decide) ?_
    refine lv_aload_n hx hb dLooker_lookAt_262 rfl (lv_at hl 0 rfl) ?_
    refine of_get S hC (of_8_5 hI) in_Looker rfl (by decide) qw_3b1b00c0af dLooker_lookAt_263 ?_
    refine lv_iload_n hx hb dLooker_lookAt_266 rfl (lv_at hl 1 rfl) ?_
    refine mu_Vi (rest := []) S hC (fun q h => hA q (Nat.le_trans hS.1 h)) (fun q h => h) hS (k_Meanings_attribute l γ A κ x1) meMeanings_attribute qw_19aeb78c12 ⟨Nat.le_of_ble_eq_true rfl, Nat.le_of_ble_eq_true rfl⟩ (rv_12 hC hI) hI rfl hl.1 rfl (Nat.le_of_ble_eq_true rfl) dLooker_lookAt_267 ⟨Nat.le_refl _, Nat.le_refl _⟩ (fun r92 H locs ⟨hr92, hI⟩ hS _ _ => ?_)
    exact hE _ _ _ _ _ hS ⟨trivial, hI⟩ dLooker_lookAt_270
  refine lv_tableOut (tgt := 271) hx hb dLooker_lookAt_16 (by have qk49 := lv_neT (a := 1) k49 (by decide); have qk51 := lv_neT (a := 2) k51 (by decide); have qk53 := lv_neT (a := 3) k53 (by decide); have qk55 := lv_neT (a := 4) k55 (by decide); have qk57 := lv_neT (a := 5) k57 (by decide); have qk58 := lv_neT (a := 6) k58 (by decide); have qk59 := lv_neT (a := 7) k59 (by decide); have qk60 := lv_neT (a := 8) k60 (by decide); have qk61 := lv_neT (a := 9) k61 (by decide); have qk62 := lv_neT (a := 10) k62 (by decide); have qk63 := lv_neT (a := 11) k63 (by decide); have qk64 := lv_neT (a := 12) k64 (by decide); have qk65 := lv_neT (a := 13) k65 (by decide); have qk66 := lv_neT (a := 14) k66 (by decide); have qk67 := lv_neT (a := 15) k67 (by decide); have qk68 := lv_neT (a := 16) k68 (by decide); have qk69 := lv_neT (a := 17) k69 (by decide); have qk70 := lv_neT (a := 18) k70 (by decide); have qk71 := lv_neT (a := 19) k71 (by decide); have qk72 := lv_neT (a := 20) k72 (by decide); have qk78 := lv_neT (a := 21) k78 (by decide); have qk85 := lv_neT (a := 22) k85 (by decide); have qk87 := lv_neT (a := 23) k87 (by decide); have qk89 := lv_neT (a := 24) k89 (by decide); have qk91 := lv_neT (a := 25) k91 (by decide); omega) (by decide) ?_
  refine lv_bipush (v := 11) hx hb dLooker_lookAt_271 (by decide) ?_
  exact hE _ _ _ _ _ hS ⟨trivial, hI⟩ dLooker_lookAt_273

set_option maxHeartbeats 4000000 in
set_option maxRecDepth 100000 in
theorem k6_Looks_copy (l : Launch) (γ : gE) (A : Nat → Prop) (κ : Nat → Nat) (x2 : Int32) : MU l yLooks_copy bLooks_copy 3 (none) 2 83 0 0 [.ref (γ.2.2.2 6), .ref (γ.2.2.2 9), .int x2] γ A (INV γ A κ) (mQv (fun H => INV γ A κ H) A) := by
  refine mu_openV (by decide) (Nat.le_of_ble_eq_true rfl) ?_
  intro p e s m args below meth c ls Q S hnm hC hA hI hE hl
  obtain ⟨hx, hb, hml, hown, hW⟩ := id S
  have hS : va_S A s.heap s.heap [] := va_S.rf
  have hl : lv_has ls 3 [(0, .ref (γ.2.2.2 6)), (1, .ref (γ.2.2.2 9)), (2, .int x2)] := hl
  refine lv_aload_n hx hb dLooks_copy_0 rfl (lv_at hl 0 rfl) ?_
  refine lv_iload_n hx hb dLooks_copy_1 rfl (lv_at hl 2 rfl) ?_
  refine lv_aload_n hx hb dLooks_copy_2 rfl (lv_at hl 1 rfl) ?_
  refine lv_iload_n hx hb dLooks_copy_3 rfl (lv_at hl 2 rfl) ?_
  refine pu_Vi (rest := [.int x2, .ref (γ.2.2.2 6)]) S hC (k9_Looks_classOf l γ A κ x2) meLooks_classOf qw_afa922b076 ⟨Nat.le_of_ble_eq_true rfl, Nat.le_of_ble_eq_true rfl⟩ (rv_9 hC hI) hI rfl hl.1 rfl (Nat.le_of_ble_eq_true rfl) dLooks_copy_4 ⟨Nat.zero_le _, Nat.zero_le _⟩ (fun r10 hr10 => ?_)
  refine lv_aload_n hx hb dLooks_copy_7 rfl (lv_at hl 1 rfl) ?_
  refine lv_iload_n hx hb dLooks_copy_8 rfl (lv_at hl 2 rfl) ?_
  refine pu_Vi (rest := [.int r10, .int x2, .ref (γ.2.2.2 6)]) S hC (k9_Looks_extentOf l γ A κ x2) meLooks_extentOf qw_76af360b84 ⟨Nat.le_of_ble_eq_true rfl, Nat.le_of_ble_eq_true rfl⟩ (rv_9 hC hI) hI rfl hl.1 rfl (Nat.le_of_ble_eq_true rfl) dLooks_copy_9 ⟨Nat.zero_le _, Nat.zero_le _⟩ (fun r11 hr11 => ?_)
  refine lv_aload_n hx hb dLooks_copy_12 rfl (lv_at hl 1 rfl) ?_
  refine lv_iload_n hx hb dLooks_copy_13 rfl (lv_at hl 2 rfl) ?_
  refine pu_Vi (rest := [.int r11, .int r10, .int x2, .ref (γ.2.2.2 6)]) S hC (k9_Looks_isFixed l γ A κ x2) meLooks_isFixed qw_baacda067f ⟨Nat.le_of_ble_eq_true rfl, Nat.le_of_ble_eq_true rfl⟩ (rv_9 hC hI) hI rfl hl.1 rfl (Nat.le_of_ble_eq_true rfl) dLooks_copy_14 ⟨Nat.zero_le _, Nat.zero_le _⟩ (fun r12 hr12 => ?_)
  refine mu_Vv (rest := []) S hC (fun q h => hA q (Nat.le_trans hS.1 h)) (fun q h => h) hS (k6_Looks_note l γ A κ x2 r10 r11 r12) meLooks_note qw_a636540c8a ⟨Nat.le_of_ble_eq_true rfl, Nat.le_of_ble_eq_true rfl⟩ (rv_6 hC hI) hI rfl hl.1 rfl (Nat.le_of_ble_eq_true rfl) dLooks_copy_17 ⟨Nat.le_refl _, Nat.le_refl _⟩ (fun H locs hI hS _ _ => ?_)
  refine lv_aload_n hx hb dLooks_copy_20 rfl (lv_at hl 0 rfl) ?_
  refine lv_iload_n hx hb dLooks_copy_21 rfl (lv_at hl 2 rfl) ?_
  refine lv_aload_n hx hb dLooks_copy_22 rfl (lv_at hl 1 rfl) ?_
  refine lv_iload_n hx hb dLooks_copy_23 rfl (lv_at hl 2 rfl) ?_
  refine pu_Vi (rest := [.int x2, .ref (γ.2.2.2 6)]) S hC (k9_Looks_meaningOf l γ A κ x2) meLooks_meaningOf qw_95efa8fed5 ⟨Nat.le_of_ble_eq_true rfl, Nat.le_of_ble_eq_true rfl⟩ (rv_9 hC hI) hI rfl hl.1 rfl (Nat.le_of_ble_eq_true rfl) dLooks_copy_24 ⟨Nat.zero_le _, Nat.zero_le _⟩ (fun r14 hr14 => ?_)
  refine mu_Vv (rest := []) S hC (fun q h => hA q (Nat.le_trans hS.1 h)) (fun q h => h) hS (k6_Looks_setMeaning l γ A κ x2 r14) meLooks_setMeaning qw_fccdde971d ⟨Nat.le_of_ble_eq_true rfl, Nat.le_of_ble_eq_true rfl⟩ (rv_6 hC hI) hI rfl hl.1 rfl (Nat.le_of_ble_eq_true rfl) dLooks_copy_27 ⟨Nat.le_refl _, Nat.le_refl _⟩ (fun H locs hI hS _ _ => ?_)
  refine lv_aload_n hx hb dLooks_copy_30 rfl (lv_at hl 0 rfl) ?_
  refine lv_iload_n hx hb dLooks_copy_31 rfl (lv_at hl 2 rfl) ?_
  refine lv_aload_n hx hb dLooks_copy_32 rfl (lv_at hl 1 rfl) ?_
  refine lv_iload_n hx hb dLooks_copy_33 rfl (lv_at hl 2 rfl) ?_
  refine pu_Vi (rest := [.int x2, .ref (γ.2.2.2 6)]) S hC (k9_Looks_numberOf l γ A κ x2) meLooks_numberOf qw_dce361ad2f ⟨Nat.le_of_ble_eq_true rfl, Nat.le_of_ble_eq_true rfl⟩ (rv_9 hC hI) hI rfl hl.1 rfl (Nat.le_of_ble_eq_true rfl) dLooks_copy_34 ⟨Nat.zero_le _, Nat.zero_le _⟩ (fun r16 hr16 => ?_)
  refine mu_Vv (rest := []) S hC (fun q h => hA q (Nat.le_trans hS.1 h)) (fun q h => h) hS (k6_Looks_setNumber l γ A κ x2 r16) meLooks_setNumber qw_58cf4eec0a ⟨Nat.le_of_ble_eq_true rfl, Nat.le_of_ble_eq_true rfl⟩ (rv_6 hC hI) hI rfl hl.1 rfl (Nat.le_of_ble_eq_true rfl) dLooks_copy_37 ⟨Nat.le_refl _, Nat.le_refl _⟩ (fun H locs hI hS _ _ => ?_)
  refine lv_aload_n hx hb dLooks_copy_40 rfl (lv_at hl 0 rfl) ?_
  refine of_get S hC (of_6_5 hI) in_Looks rfl (by decide) qw_50f3c1330a dLooks_copy_41 ?_
  refine lv_iload_n hx hb dLooks_copy_44 rfl (lv_at hl 2 rfl) ?_
  refine lv_aload_n hx hb dLooks_copy_45 rfl (lv_at hl 1 rfl) ?_
  refine of_get S hC (of_9_5 hI) in_Looks rfl (by decide) qw_50f3c1330a dLooks_copy_46 ?_
  refine lv_iload_n hx hb dLooks_copy_49 rfl (lv_at hl 2 rfl) ?_
  refine mu_Vv (rest := []) S hC (fun q h => hA q (Nat.le_trans hS.1 h)) (fun q h => h) hS (k7_Rows_copy l γ A κ x2 x2) meRows_copy qw_4050b11111 ⟨Nat.le_of_ble_eq_true rfl, Nat.le_of_ble_eq_true rfl⟩ (rv_7 hC hI) hI rfl hl.1 rfl (Nat.le_of_ble_eq_true rfl) dLooks_copy_50 ⟨Nat.le_refl _, Nat.le_refl _⟩ (fun H locs hI hS _ _ => ?_)
  exact hE _ _ _ _ hS hI dLooks_copy_53

set_option maxHeartbeats 4000000 in
set_option maxRecDepth 100000 in
theorem k_Objects_keep (l : Launch) (γ : gE) (A : Nat → Prop) (κ : Nat → Nat) (x1 : Int32) (x3 : Int32) : MU l yObjects_keep bObjects_keep 4 (none) 2 83 0 0 [.ref (γ.2.2.2 4), .int x1, .ref (γ.2.2.2 6), .int x3] γ A (INV γ A κ) (mQv (fun H => INV γ A κ H) A) := by
  refine mu_openV (by decide) (Nat.le_of_ble_eq_true rfl) ?_
  intro p e s m args below meth c ls Q S hnm hC hA hI hE hl
  obtain ⟨hx, hb, hml, hown, hW⟩ := id S
  have hS : va_S A s.heap s.heap [] := va_S.rf
  have hl : lv_has ls 4 [(0, .ref (γ.2.2.2 4)), (1, .int x1), (2, .ref (γ.2.2.2 6)), (3, .int x3)] := hl
  refine lv_aload_n hx hb dObjects_keep_0 rfl (lv_at hl 0 rfl) ?_
  refine lv_iload_n hx hb dObjects_keep_1 rfl (lv_at hl 1 rfl) ?_
  refine pu_Vi (rest := []) S hC (k4_Objects_has l γ A κ x1) meObjects_has qw_2f2cb5cb5a ⟨Nat.le_of_ble_eq_true rfl, Nat.le_of_ble_eq_true rfl⟩ (rv_4 hC hI) hI rfl hl.1 rfl (Nat.le_of_ble_eq_true rfl) dObjects_keep_2 ⟨Nat.zero_le _, Nat.zero_le _⟩ (fun r6 hr6 => ?_)
  refine lv_if_eq (tgt := 32) hx hb dObjects_keep_5 (by decide) (fun c7 => ?_) (fun c7 => ?_)
  · exact hE _ _ _ _ hS hI dObjects_keep_32
  · refine lv_aload_n hx hb dObjects_keep_8 rfl (lv_at hl 0 rfl) ?_
    obtain ⟨b8, hOb8⟩ := of_4_2 hI
    refine of_get S hC hOb8 in_Objects rfl (by decide) qw_0ed5786ef0 dObjects_keep_9 ?_
    refine lv_iload_n hx hb dObjects_keep_12 rfl (lv_at hl 1 rfl) ?_
    refine lv_aload_n hx hb dObjects_keep_13 rfl (lv_at hl 2 rfl) ?_
    refine lv_iload_n hx hb dObjects_keep_14 rfl (lv_at hl 3 rfl) ?_
    refine pu_Vi (rest := [.int x1, .ref b8]) S hC (k6_Looks_numberOf l γ A κ x3) meLooks_numberOf qw_ce0ad21609 ⟨Nat.le_of_ble_eq_true rfl, Nat.le_of_ble_eq_true rfl⟩ (rv_6 hC hI) hI rfl hl.1 rfl (Nat.le_of_ble_eq_true rfl) dObjects_keep_15 ⟨Nat.zero_le _, Nat.zero_le _⟩ (fun r9 hr9 => ?_)
    refine iv_onum S hC hI (fun q h => hA q (Nat.le_trans hS.1 h)) hS hOb8 (by assumption) (by assumption) dObjects_keep_18 (fun H locs hI hS => ?_)
    refine lv_aload_n hx hb dObjects_keep_19 rfl (lv_at hl 0 rfl) ?_
    refine of_get S hC (of_4_3 hI) in_Objects rfl (by decide) qw_f4aeeaf054 dObjects_keep_20 ?_
    refine lv_iload_n hx hb dObjects_keep_23 rfl (lv_at hl 1 rfl) ?_
    refine lv_aload_n hx hb dObjects_keep_24 rfl (lv_at hl 2 rfl) ?_
    refine of_getN S hC (of_6_5 hI) in_Looks rfl (by decide) qn_d9aceef3ce dObjects_keep_25 ?_
    refine lv_iload_n hx hb dObjects_keep_28 rfl (lv_at hl 3 rfl) ?_
    refine mu_Vv (rest := []) S hC (fun q h => hA q (Nat.le_trans hS.1 h)) (fun q h => h) hS (k5_Rows_copy l γ A κ x1 x3) meRows_copy qw_d8c0d69073 ⟨Nat.le_of_ble_eq_true rfl, Nat.le_of_ble_eq_true rfl⟩ (rv_5 hC hI) hI rfl hl.1 rfl (Nat.le_of_ble_eq_true rfl) dObjects_keep_29 ⟨Nat.le_refl _, Nat.le_refl _⟩ (fun H locs hI hS _ _ => ?_)
    exact hE _ _ _ _ hS hI dObjects_keep_32

set_option maxHeartbeats 4000000 in
set_option maxRecDepth 100000 in
theorem k_Looker_hideBelowAttributes (l : Launch) (γ : gE) (A : Nat → Prop) (κ : Nat → Nat) (x1 : Int32) : MU l yLooker_hideBelowAttributes bLooker_hideBelowAttributes 4 (none) 2 42 0 0 [.ref (γ.2.2.2 8), .int x1] γ A (INV γ A κ) (mQv (fun H => INV γ A κ H) A) := by
  refine mu_openV (by decide) (Nat.le_of_ble_eq_true rfl) ?_
  intro p e s m args below meth c ls Q S hnm hC hA hI hE hl
  obtain ⟨hx, hb, hml, hown, hW⟩ := id S
  have hS : va_S A s.heap s.heap [] := va_S.rf
  have hl : lv_has ls 4 [(0, .ref (γ.2.2.2 8)), (1, .int x1)] := hl
  have J6 : ∀ (N6 : Nat) (ls : Array Slot) (H : Heap) (locs : List Loc) (i1 : Int32) (i2 : Int32) (i3 : Int32), INV γ A κ H → va_S A s.heap H locs → (i3.toInt + 2147483648).toNat = N6 → lv_has ls 4 [(0, .ref (γ.2.2.2 8)), (1, .int i1), (2, .int i2), (3, .int i3)] → W p l e (bs_rm 2 0 0 42) s m args below meth c H locs 0 0 Q (F0 m 6 ls []) := by
    intro N6
    induction N6 using Nat.strongRecOn with
    | ind N6 ih6 =>
      intro ls H locs i1 i2 i3 hI hS hm6 hl
      have J70 : ∀ (ls : Array Slot) (H : Heap) (locs : List Loc) (i1 : Int32) (i2 : Int32) (i3 : Int32), INV γ A κ H → va_S A s.heap H locs → (-2147483648 < i3.toInt ∧ (i3.toInt + 2147483648).toNat = N6) → lv_has ls 4 [(0, .ref (γ.2.2.2 8)), (1, .int i1), (2, .int i2), (3, .int i3)] → W p l e (bs_rm 2 0 0 42) s m args below meth c H locs 0 0 Q (F0 m 70 ls []) := by
        intro ls H locs i1 i2 i3 hI hS ⟨hf6a, hf6b⟩ hl
        obtain ⟨v18, ev18⟩ : ∃ y : Int32, y = i3 + (-1) := ⟨_, rfl⟩
        refine lv_iinc (v := v18) (lv' := [(3, .int v18), (0, .ref (γ.2.2.2 8)), (1, .int i1), (2, .int i2)]) hx hb dLooker_hideBelowAttributes_70 hl (k := 3) rfl (by rw [ev18]; rfl) (by decide) rfl (fun ls hl => ?_)
        refine lv_goto (tgt := 6) hx hb dLooker_hideBelowAttributes_73 (by decide) ?_
        exact ih6 _ (by have q1 : -2147483648 < i3.toInt := (by first | assumption | omega); have q2 := mu_dn q1; rw [← ev18] at q2; omega) ls _ _ i1 i2 v18 hI hS rfl (lv_sub hl [1, 2, 3, 0] rfl)
      refine lv_iload_n hx hb dLooker_hideBelowAttributes_6 rfl (lv_at hl 3 rfl) ?_
      refine lv_aload_n hx hb dLooker_hideBelowAttributes_7 rfl (lv_at hl 0 rfl) ?_
      refine of_get S hC (of_8_0 hI) in_Looker rfl (by decide) qw_22d2793f25 dLooker_hideBelowAttributes_8 ?_
      refine lv_iload_n hx hb dLooker_hideBelowAttributes_11 rfl (lv_at hl 1 rfl) ?_
      refine pu_Vi (rest := [.int i3]) S hC (k1_Trees_firstOf l γ A κ i1) meTrees_firstOf qw_b381ab4f95 ⟨Nat.le_of_ble_eq_true rfl, Nat.le_of_ble_eq_true rfl⟩ (rv_1 hC hI) hI rfl hl.1 rfl (Nat.le_of_ble_eq_true rfl) dLooker_hideBelowAttributes_12 ⟨Nat.zero_le _, Nat.zero_le _⟩ (fun r19 hr19 => ?_)
      refine lv_icmp_lt (tgt := 76) hx hb dLooker_hideBelowAttributes_15 (by decide) (fun c20 => ?_) (fun c20 => ?_)
      · exact hE _ _ _ _ hS hI dLooker_hideBelowAttributes_76
      · have hge : ¬ i3 < 0 := md_ge (by assumption) (by assumption)
        have hge2 := md_int hge
        refine lv_iload_n hx hb dLooker_hideBelowAttributes_18 rfl (lv_at hl 3 rfl) ?_
        refine lv_aload_n hx hb dLooker_hideBelowAttributes_19 rfl (lv_at hl 0 rfl) ?_
        obtain ⟨b21, hOb21⟩ := of_8_6 hI
        refine of_get S hC hOb21 in_Looker rfl (by decide) qw_899a0812ea dLooker_hideBelowAttributes_20 ?_
        refine iv_hlen S hC hI hOb21 dLooker_hideBelowAttributes_23 ?_
        refine lv_topi (fun v22 ev22 => ?_)
        refine lv_icmp_ge (tgt := 76) hx hb dLooker_hideBelowAttributes_24 (by decide) (fun c23 => ?_) (fun c23 => ?_)
        · exact hE _ _ _ _ hS hI dLooker_hideBelowAttributes_76
        · have hinh : vp_in i3 (κ 15) := in_cmp2 hge (by assumption) (by assumption) (inv_15 hI)
          refine lv_aload_n hx hb dLooker_hideBelowAttributes_27 rfl (lv_at hl 0 rfl) ?_
          obtain ⟨b24, hOb24⟩ := of_8_6 hI
          refine of_get S hC hOb24 in_Looker rfl (by decide) qw_899a0812ea dLooker_hideBelowAttributes_28 ?_
          refine lv_iload_n hx hb dLooker_hideBelowAttributes_31 rfl (lv_at hl 3 rfl) ?_
          refine lv_iload_n hx hb dLooker_hideBelowAttributes_32 rfl (lv_at hl 3 rfl) ?_
          refine lv_iload_n hx hb dLooker_hideBelowAttributes_33 rfl (lv_at hl 2 rfl) ?_
          refine lv_icmp_lt (tgt := 41) hx hb dLooker_hideBelowAttributes_34 (by decide) (fun c25 => ?_) (fun c25 => ?_)
          · refine lv_iconst (v := 0) hx hb dLooker_hideBelowAttributes_41 (by decide) ?_
            refine iv_hid S hC hI (fun q h => hA q (Nat.le_trans hS.1 h)) hS hOb24 hinh dLooker_hideBelowAttributes_42 (fun H locs hI hS => ?_)
            refine lv_iload_n hx hb dLooker_hideBelowAttributes_43 rfl (lv_at hl 3 rfl) ?_
            refine lv_iload_n hx hb dLooker_hideBelowAttributes_44 rfl (lv_at hl 2 rfl) ?_
            refine lv_icmp_ge (tgt := 70) hx hb dLooker_hideBelowAttributes_45 (by decide) (fun c26 => ?_) (fun c26 => ?_)
            · exact J70 ls _ _ i1 i2 i3 hI hS (by first | exact ⟨(mu_up (k := i3) (by assumption)).2, by assumption⟩ | exact ⟨by assumption, by assumption⟩) (lv_sub hl [0, 1, 2, 3] rfl)
            · refine lv_aload_n hx hb dLooker_hideBelowAttributes_48 rfl (lv_at hl 0 rfl) ?_
              refine of_get S hC (of_8_0 hI) in_Looker rfl (by decide) qw_22d2793f25 dLooker_hideBelowAttributes_49 ?_
              refine lv_iload_n hx hb dLooker_hideBelowAttributes_52 rfl (lv_at hl 3 rfl) ?_
              refine pu_Vi (rest := []) S hC (k1_Trees_kindOf l γ A κ i3) meTrees_kindOf qw_f48a4a6aed ⟨Nat.le_of_ble_eq_true rfl, Nat.le_of_ble_eq_true rfl⟩ (rv_1 hC hI) hI rfl hl.1 rfl (Nat.le_of_ble_eq_true rfl) dLooker_hideBelowAttributes_53 ⟨Nat.zero_le _, Nat.zero_le _⟩ (fun r27 hr27 => ?_)
              refine lv_bipush (v := 25) hx hb dLooker_hideBelowAttributes_56 (by decide) ?_
              refine lv_icmp_ne (tgt := 70) hx hb dLooker_hideBelowAttributes_58 (by decide) (fun c28 => ?_) (fun c28 => ?_)
              · exact J70 ls _ _ i1 i2 i3 hI hS (by first | exact ⟨(mu_up (k := i3) (by assumption)).2, by assumption⟩ | exact ⟨by assumption, by assumption⟩) (lv_sub hl [0, 1, 2, 3] rfl)
              · refine lv_aload_n hx hb dLooker_hideBelowAttributes_61 rfl (lv_at hl 0 rfl) ?_
                refine of_get S hC (of_8_0 hI) in_Looker rfl (by decide) qw_22d2793f25 dLooker_hideBelowAttributes_62 ?_
                refine lv_iload_n hx hb dLooker_hideBelowAttributes_65 rfl (lv_at hl 3 rfl) ?_
                refine pu_Vi (rest := []) S hC (k1_Trees_firstOf l γ A κ i3) meTrees_firstOf qw_b381ab4f95 ⟨Nat.le_of_ble_eq_true rfl, Nat.le_of_ble_eq_true rfl⟩ (rv_1 hC hI) hI rfl hl.1 rfl (Nat.le_of_ble_eq_true rfl) dLooker_hideBelowAttributes_66 ⟨Nat.zero_le _, Nat.zero_le _⟩ (fun r29 hr29 => ?_)
                refine lv_istore_n (lv' := [(2, .int r29), (0, .ref (γ.2.2.2 8)), (1, .int i1), (3, .int i3)]) hx hb dLooker_hideBelowAttributes_69 rfl hl (by decide) rfl (fun ls hl => ?_)
                exact J70 ls _ _ i1 r29 i3 hI hS (by first | exact ⟨(mu_up (k := i3) (by assumption)).2, by assumption⟩ | exact ⟨by assumption, by assumption⟩) (lv_sub hl [1, 2, 0, 3] rfl)
          · refine lv_iconst (v := 1) hx hb dLooker_hideBelowAttributes_37 (by decide) ?_
            refine lv_goto (tgt := 42) hx hb dLooker_hideBelowAttributes_38 (by decide) ?_
            refine iv_hid S hC hI (fun q h => hA q (Nat.le_trans hS.1 h)) hS hOb24 hinh dLooker_hideBelowAttributes_42 (fun H locs hI hS => ?_)
            refine lv_iload_n hx hb dLooker_hideBelowAttributes_43 rfl (lv_at hl 3 rfl) ?_
            refine lv_iload_n hx hb dLooker_hideBelowAttributes_44 rfl (lv_at hl 2 rfl) ?_
            refine lv_icmp_ge (tgt := 70) hx hb dLooker_hideBelowAttributes_45 (by decide) (fun c30 => ?_) (fun c30 => ?_)
            · exact J70 ls _ _ i1 i2 i3 hI hS (by first | exact ⟨(mu_up (k := i3) (by assumption)).2, by assumption⟩ | exact ⟨by assumption, by assumption⟩) (lv_sub hl [0, 1, 2, 3] rfl)
            · refine lv_aload_n hx hb dLooker_hideBelowAttributes_48 rfl (lv_at hl 0 rfl) ?_
              refine of_get S hC (of_8_0 hI) in_Looker rfl (by decide) qw_22d2793f25 dLooker_hideBelowAttributes_49 ?_
              refine lv_iload_n hx hb dLooker_hideBelowAttributes_52 rfl (lv_at hl 3 rfl) ?_
              refine pu_Vi (rest := []) S hC (k1_Trees_kindOf l γ A κ i3) meTrees_kindOf qw_f48a4a6aed ⟨Nat.le_of_ble_eq_true rfl, Nat.le_of_ble_eq_true rfl⟩ (rv_1 hC hI) hI rfl hl.1 rfl (Nat.le_of_ble_eq_true rfl) dLooker_hideBelowAttributes_53 ⟨Nat.zero_le _, Nat.zero_le _⟩ (fun r31 hr31 => ?_)
              refine lv_bipush (v := 25) hx hb dLooker_hideBelowAttributes_56 (by decide) ?_
              refine lv_icmp_ne (tgt := 70) hx hb dLooker_hideBelowAttributes_58 (by decide) (fun c32 => ?_) (fun c32 => ?_)
              · exact J70 ls _ _ i1 i2 i3 hI hS (by first | exact ⟨(mu_up (k := i3) (by assumption)).2, by assumption⟩ | exact ⟨by assumption, by assumption⟩) (lv_sub hl [0, 1, 2, 3] rfl)
              · refine lv_aload_n hx hb dLooker_hideBelowAttributes_61 rfl (lv_at hl 0 rfl) ?_
                refine of_get S hC (of_8_0 hI) in_Looker rfl (by decide) qw_22d2793f25 dLooker_hideBelowAttributes_62 ?_
                refine lv_iload_n hx hb dLooker_hideBelowAttributes_65 rfl (lv_at hl 3 rfl) ?_
                refine pu_Vi (rest := []) S hC (k1_Trees_firstOf l γ A κ i3) meTrees_firstOf qw_b381ab4f95 ⟨Nat.le_of_ble_eq_true rfl, Nat.le_of_ble_eq_true rfl⟩ (rv_1 hC hI) hI rfl hl.1 rfl (Nat.le_of_ble_eq_true rfl) dLooker_hideBelowAttributes_66 ⟨Nat.zero_le _, Nat.zero_le _⟩ (fun r33 hr33 => ?_)
                refine lv_istore_n (lv' := [(2, .int r33), (0, .ref (γ.2.2.2 8)), (1, .int i1), (3, .int i3)]) hx hb dLooker_hideBelowAttributes_69 rfl hl (by decide) rfl (fun ls hl => ?_)
                exact J70 ls _ _ i1 r33 i3 hI hS (by first | exact ⟨(mu_up (k := i3) (by assumption)).2, by assumption⟩ | exact ⟨by assumption, by assumption⟩) (lv_sub hl [1, 2, 0, 3] rfl)
  refine lv_iload_n hx hb dLooker_hideBelowAttributes_0 rfl (lv_at hl 1 rfl) ?_
  refine lv_iconst (v := 1) hx hb dLooker_hideBelowAttributes_1 (by decide) ?_
  refine lv_iadd hx hb dLooker_hideBelowAttributes_2 ?_
  refine lv_topi (fun v34 ev34 => ?_)
  refine lv_istore_n (lv' := [(2, .int v34), (0, .ref (γ.2.2.2 8)), (1, .int x1)]) hx hb dLooker_hideBelowAttributes_3 rfl hl (by decide) rfl (fun ls hl => ?_)
  refine lv_iload_n hx hb dLooker_hideBelowAttributes_4 rfl (lv_at hl 2 rfl) ?_
  refine lv_istore_n (lv' := [(3, .int x1), (2, .int v34), (0, .ref (γ.2.2.2 8)), (1, .int x1)]) hx hb dLooker_hideBelowAttributes_5 rfl hl (by decide) rfl (fun ls hl => ?_)
  exact J6 _ ls _ _ x1 v34 x1 hI hS rfl (lv_sub hl [2, 3, 1, 0] rfl)
theorem qw_ddc03b0c9b : (Cond.methodLink R_Looker 64 yLooker_hideBelowAttributes) ∈ bs_W0 := bs_in (in_tables_1_3 (List.mem_of_getElem? (i := 43) rfl)) rfl
theorem qw_f3ed62502a : (Cond.methodLink R_Looker 73 yLooker_isHidden) ∈ bs_W0 := bs_in (in_tables_1_3 (List.mem_of_getElem? (i := 52) rfl)) rfl
theorem qw_d6c8e7411b : (Cond.methodLink R_Looker 77 yLooker_lookAt) ∈ bs_W0 := bs_in (in_tables_1_3 (List.mem_of_getElem? (i := 56) rfl)) rfl
theorem qw_287ec6b8fc : (Cond.methodLink R_Looker 83 yLooks_copy) ∈ bs_W0 := bs_in (in_tables_1_4 (List.mem_of_getElem? (i := 227) rfl)) rfl
set_option maxHeartbeats 4000000 in
set_option maxRecDepth 100000 in
theorem k_Looker_look (l : Launch) (γ : gE) (A : Nat → Prop) (κ : Nat → Nat) (x1 : Int32) (x2 : Int32) (hlast : x2.toInt < 2147483647) : MU l yLooker_look bLooker_look 5 (some .int) 6 150 0 0 [.ref (γ.2.2.2 8), .int x1, .int x2] γ A (INV γ A κ) (mQi (fun r H => True ∧ INV γ A κ H) A) := by
  refine mu_openI (by decide) (Nat.le_of_ble_eq_true rfl) ?_
  intro p e s m args below meth c ls Q S hnm hC hA hI hE hl
  obtain ⟨hx, hb, hml, hown, hW⟩ := id S
  have hS : va_S A s.heap s.heap [] := va_S.rf
  have hl : lv_has ls 5 [(0, .ref (γ.2.2.2 8)), (1, .int x1), (2, .int x2)] := hl
  have J14 : ∀ (N14 : Nat) (ls : Array Slot) (H : Heap) (locs : List Loc) (i1 : Int32) (i2 : Int32) (i3 : Int32), INV γ A κ H → va_S A s.heap H locs → (i2.toInt < 2147483647) → (2147483647 - i3.toInt).toNat = N14 → lv_has ls 5 [(0, .ref (γ.2.2.2 8)), (1, .int i1), (2, .int i2), (3, .int i3)] → W p l e (bs_rm 6 0 0 150) s m args below meth c H locs 0 0 Q (F0 m 14 ls []) := by
    intro N14
    induction N14 using Nat.strongRecOn with
    | ind N14 ih14 =>
      intro ls H locs i1 i2 i3 hI hS hq hm14 hl
      have J41 : ∀ (ls : Array Slot) (H : Heap) (locs : List Loc) (i1 : Int32) (i2 : Int32) (i3 : Int32) (t0 : Int32), INV γ A κ H → va_S A s.heap H locs → (i3.toInt < 2147483647 ∧ (2147483647 - i3.toInt).toNat = N14) → (i2.toInt < 2147483647) → lv_has ls 5 [(0, .ref (γ.2.2.2 8)), (1, .int i1), (2, .int i2), (3, .int i3)] → W p l e (bs_rm 6 0 0 150) s m args below meth c H locs 0 0 Q (F0 m 41 ls [.int t0]) := by
        intro ls H locs i1 i2 i3 t0 hI hS ⟨hf14a, hf14b⟩ hq hl
        refine lv_istore (lv' := [(4, .int t0), (0, .ref (γ.2.2.2 8)), (1, .int i1), (2, .int i2), (3, .int i3)]) hx hb dLooker_look_41 hl (by decide) rfl (fun ls hl => ?_)
        refine lv_iload hx hb dLooker_look_43 (lv_at hl 0 rfl) ?_
        refine lv_if_eq (tgt := 51) hx hb dLooker_look_45 (by decide) (fun c9 => ?_) (fun c9 => ?_)
        · obtain ⟨v10, ev10⟩ : ∃ y : Int32, y = i3 + 1 := ⟨_, rfl⟩
          refine lv_iinc (v := v10) (lv' := [(3, .int v10), (4, .int t0), (0, .ref (γ.2.2.2 8)), (1, .int i1), (2, .int i2)]) hx hb dLooker_look_51 hl (k := 4) rfl (by rw [ev10]; rfl) (by decide) rfl (fun ls hl => ?_)
          refine lv_goto (tgt := 14) hx hb dLooker_look_54 (by decide) ?_
          exact ih14 _ (by have q1 : i3.toInt < 2147483647 := (by first | exact (mu_up (k := i3) (by assumption)).2 | assumption); have q2 := mu_lt q1; rw [← ev10] at q2; omega) ls _ _ i1 i2 v10 hI hS (by first | assumption | exact hlast) rfl (lv_sub hl [2, 3, 4, 0] rfl)
        · refine lv_iload hx hb dLooker_look_48 (lv_at hl 0 rfl) ?_
          exact hE _ _ _ _ _ hS ⟨trivial, hI⟩ dLooker_look_50
      refine lv_iload_n hx hb dLooker_look_14 rfl (lv_at hl 3 rfl) ?_
      refine lv_iload_n hx hb dLooker_look_15 rfl (lv_at hl 2 rfl) ?_
      refine lv_icmp_gt (tgt := 57) hx hb dLooker_look_16 (by decide) (fun c11 => ?_) (fun c11 => ?_)
      · refine lv_iconst (v := 0) hx hb dLooker_look_57 (by decide) ?_
        exact hE _ _ _ _ _ hS ⟨trivial, hI⟩ dLooker_look_58
      · have hlt : i3.toInt < 2147483647 := mu_le (by assumption) hq
        refine lv_aload_n hx hb dLooker_look_19 rfl (lv_at hl 0 rfl) ?_
        refine lv_iload_n hx hb dLooker_look_20 rfl (lv_at hl 3 rfl) ?_
        refine iv_at S hC hI (fun q h => hA q (Nat.le_trans hS.1 h)) hS qw_a0a252684f dLooker_look_21 (fun H locs hI hS => ?_)
        refine lv_aload_n hx hb dLooker_look_24 rfl (lv_at hl 0 rfl) ?_
        refine lv_iload_n hx hb dLooker_look_25 rfl (lv_at hl 3 rfl) ?_
        refine pu_Vi (rest := []) S hC (k_Looker_isHidden l γ A κ i3) meLooker_isHidden qw_f3ed62502a ⟨Nat.le_of_ble_eq_true rfl, Nat.le_of_ble_eq_true rfl⟩ (rv_8 hC hI) hI rfl hl.1 rfl (Nat.le_of_ble_eq_true rfl) dLooker_look_26 ⟨Nat.zero_le _, Nat.zero_le _⟩ (fun r12 hr12 => ?_)
        refine lv_if_eq (tgt := 36) hx hb dLooker_look_29 (by decide) (fun c13 => ?_) (fun c13 => ?_)
        · refine lv_aload_n hx hb dLooker_look_36 rfl (lv_at hl 0 rfl) ?_
          refine lv_iload_n hx hb dLooker_look_37 rfl (lv_at hl 3 rfl) ?_
          refine mu_Vi (rest := []) S hC (fun q h => hA q (Nat.le_trans hS.1 h)) (fun q h => h) hS (k_Looker_lookAt l γ A κ i3) meLooker_lookAt qw_d6c8e7411b ⟨Nat.le_of_ble_eq_true rfl, Nat.le_of_ble_eq_true rfl⟩ (rv_8 hC hI) hI rfl hl.1 rfl (Nat.le_of_ble_eq_true rfl) dLooker_look_38 ⟨Nat.le_refl _, Nat.le_refl _⟩ (fun r14 H locs ⟨hr14, hI⟩ hS _ _ => ?_)
          exact J41 ls _ _ i1 i2 i3 r14 hI hS (by first | exact ⟨(mu_up (k := i3) (by assumption)).2, by assumption⟩ | exact ⟨by assumption, by assumption⟩) (by first | assumption | exact hlast) (lv_sub hl [0, 1, 2, 3] rfl)
        · refine lv_iconst (v := 0) hx hb dLooker_look_32 (by decide) ?_
          refine lv_goto (tgt := 41) hx hb dLooker_look_33 (by decide) ?_
          exact J41 ls _ _ i1 i2 i3 0 hI hS (by first | exact ⟨(mu_up (k := i3) (by assumption)).2, by assumption⟩ | exact ⟨by assumption, by assumption⟩) (by first | assumption | exact hlast) (lv_sub hl [0, 1, 2, 3] rfl)
  refine lv_aload_n hx hb dLooker_look_0 rfl (lv_at hl 0 rfl) ?_
  refine lv_iload_n hx hb dLooker_look_1 rfl (lv_at hl 1 rfl) ?_
  refine mu_Vv (rest := []) S hC (fun q h => hA q (Nat.le_trans hS.1 h)) (fun q h => h) hS (k_Looker_hideBelowAttributes l γ A κ x1) meLooker_hideBelowAttributes qw_ddc03b0c9b ⟨Nat.le_of_ble_eq_true rfl, Nat.le_of_ble_eq_true rfl⟩ (rv_8 hC hI) hI rfl hl.1 rfl (Nat.le_of_ble_eq_true rfl) dLooker_look_2 ⟨Nat.le_refl _, Nat.le_refl _⟩ (fun H locs hI hS _ _ => ?_)
  refine lv_aload_n hx hb dLooker_look_5 rfl (lv_at hl 0 rfl) ?_
  refine of_get S hC (of_8_0 hI) in_Looker rfl (by decide) qw_22d2793f25 dLooker_look_6 ?_
  refine lv_iload_n hx hb dLooker_look_9 rfl (lv_at hl 1 rfl) ?_
  refine pu_Vi (rest := []) S hC (k1_Trees_firstOf l γ A κ x1) meTrees_firstOf qw_b381ab4f95 ⟨Nat.le_of_ble_eq_true rfl, Nat.le_of_ble_eq_true rfl⟩ (rv_1 hC hI) hI rfl hl.1 rfl (Nat.le_of_ble_eq_true rfl) dLooker_look_10 ⟨Nat.zero_le _, Nat.zero_le _⟩ (fun r16 hr16 => ?_)
  refine lv_istore_n (lv' := [(3, .int r16), (0, .ref (γ.2.2.2 8)), (1, .int x1), (2, .int x2)]) hx hb dLooker_look_13 rfl hl (by decide) rfl (fun ls hl => ?_)
  exact J14 _ ls _ _ x1 x2 r16 hI hS (by first | assumption | exact hlast) rfl (lv_sub hl [1, 2, 3, 0] rfl)

set_option maxHeartbeats 4000000 in
set_option maxRecDepth 100000 in
theorem k_Looker_tell (l : Launch) (γ : gE) (A : Nat → Prop) (κ : Nat → Nat) (x2 : Int32) (x3 : Int32) (hlast : x3.toInt < 2147483647) : MU l yLooker_tell bLooker_tell 5 (none) 3 105 0 0 [.ref (γ.2.2.2 8), .ref (γ.2.2.2 6), .int x2, .int x3] γ A (INV γ A κ) (mQv (fun H => INV γ A κ H) A) := by
  refine mu_openV (by decide) (Nat.le_of_ble_eq_true rfl) ?_
  intro p e s m args below meth c ls Q S hnm hC hA hI hE hl
  obtain ⟨hx, hb, hml, hown, hW⟩ := id S
  have hS : va_S A s.heap s.heap [] := va_S.rf
  have hl : lv_has ls 5 [(0, .ref (γ.2.2.2 8)), (1, .ref (γ.2.2.2 6)), (2, .int x2), (3, .int x3)] := hl
  have J10 : ∀ (N10 : Nat) (ls : Array Slot) (H : Heap) (locs : List Loc) (i2 : Int32) (i3 : Int32) (i4 : Int32), INV γ A κ H → va_S A s.heap H locs → (i3.toInt < 2147483647) → (2147483647 - i4.toInt).toNat = N10 → lv_has ls 5 [(0, .ref (γ.2.2.2 8)), (1, .ref (γ.2.2.2 6)), (2, .int i2), (3, .int i3), (4, .int i4)] → W p l e (bs_rm 3 0 0 105) s m args below meth c H locs 0 0 Q (F0 m 10 ls []) := by
    intro N10
    induction N10 using Nat.strongRecOn with
    | ind N10 ih10 =>
      intro ls H locs i2 i3 i4 hI hS hq hm10 hl
      have J35 : ∀ (ls : Array Slot) (H : Heap) (locs : List Loc) (i2 : Int32) (i3 : Int32) (i4 : Int32), INV γ A κ H → va_S A s.heap H locs → (i4.toInt < 2147483647 ∧ (2147483647 - i4.toInt).toNat = N10) → (i3.toInt < 2147483647) → lv_has ls 5 [(0, .ref (γ.2.2.2 8)), (1, .ref (γ.2.2.2 6)), (2, .int i2), (3, .int i3), (4, .int i4)] → W p l e (bs_rm 3 0 0 105) s m args below meth c H locs 0 0 Q (F0 m 35 ls []) := by
        intro ls H locs i2 i3 i4 hI hS ⟨hf10a, hf10b⟩ hq hl
        obtain ⟨v7, ev7⟩ : ∃ y : Int32, y = i4 + 1 := ⟨_, rfl⟩
        refine lv_iinc (v := v7) (lv' := [(4, .int v7), (0, .ref (γ.2.2.2 8)), (1, .ref (γ.2.2.2 6)), (2, .int i2), (3, .int i3)]) hx hb dLooker_tell_35 hl (k := 4) rfl (by rw [ev7]; rfl) (by decide) rfl (fun ls hl => ?_)
        refine lv_goto (tgt := 10) hx hb dLooker_tell_38 (by decide) ?_
        exact ih10 _ (by have q1 : i4.toInt < 2147483647 := (by first | exact (mu_up (k := i4) (by assumption)).2 | assumption); have q2 := mu_lt q1; rw [← ev7] at q2; omega) ls _ _ i2 i3 v7 hI hS (by first | assumption | exact hlast) rfl (lv_sub hl [1, 2, 3, 4, 0] rfl)
      refine lv_iload hx hb dLooker_tell_10 (lv_at hl 4 rfl) ?_
      refine lv_iload_n hx hb dLooker_tell_12 rfl (lv_at hl 3 rfl) ?_
      refine lv_icmp_gt (tgt := 41) hx hb dLooker_tell_13 (by decide) (fun c8 => ?_) (fun c8 => ?_)
      · exact hE _ _ _ _ hS hI dLooker_tell_41
      · have hlt : i4.toInt < 2147483647 := mu_le (by assumption) hq
        refine lv_aload_n hx hb dLooker_tell_16 rfl (lv_at hl 0 rfl) ?_
        refine lv_iload hx hb dLooker_tell_17 (lv_at hl 4 rfl) ?_
        refine pu_Vi (rest := []) S hC (k_Looker_isHidden l γ A κ i4) meLooker_isHidden qw_f3ed62502a ⟨Nat.le_of_ble_eq_true rfl, Nat.le_of_ble_eq_true rfl⟩ (rv_8 hC hI) hI rfl hl.1 rfl (Nat.le_of_ble_eq_true rfl) dLooker_tell_19 ⟨Nat.zero_le _, Nat.zero_le _⟩ (fun r9 hr9 => ?_)
        refine lv_if_ne (tgt := 35) hx hb dLooker_tell_22 (by decide) (fun c10 => ?_) (fun c10 => ?_)
        · exact J35 ls _ _ i2 i3 i4 hI hS (by first | exact ⟨(mu_up (k := i4) (by assumption)).2, by assumption⟩ | exact ⟨by assumption, by assumption⟩) (by first | assumption | exact hlast) (lv_sub hl [0, 1, 2, 3, 4] rfl)
        · refine lv_aload_n hx hb dLooker_tell_25 rfl (lv_at hl 1 rfl) ?_
          refine lv_aload_n hx hb dLooker_tell_26 rfl (lv_at hl 0 rfl) ?_
          refine of_get S hC (of_8_3 hI) in_Looker rfl (by decide) qw_77aeadf252 dLooker_tell_27 ?_
          refine lv_iload hx hb dLooker_tell_30 (lv_at hl 4 rfl) ?_
          refine mu_Vv (rest := []) S hC (fun q h => hA q (Nat.le_trans hS.1 h)) (fun q h => h) hS (k6_Looks_copy l γ A κ i4) meLooks_copy qw_287ec6b8fc ⟨Nat.le_of_ble_eq_true rfl, Nat.le_of_ble_eq_true rfl⟩ (rv_6 hC hI) hI rfl hl.1 rfl (Nat.le_of_ble_eq_true rfl) dLooker_tell_32 ⟨Nat.le_refl _, Nat.le_refl _⟩ (fun H locs hI hS _ _ => ?_)
          exact J35 ls _ _ i2 i3 i4 hI hS (by first | exact ⟨(mu_up (k := i4) (by assumption)).2, by assumption⟩ | exact ⟨by assumption, by assumption⟩) (by first | assumption | exact hlast) (lv_sub hl [0, 1, 2, 3, 4] rfl)
  refine lv_aload_n hx hb dLooker_tell_0 rfl (lv_at hl 0 rfl) ?_
  refine of_get S hC (of_8_0 hI) in_Looker rfl (by decide) qw_22d2793f25 dLooker_tell_1 ?_
  refine lv_iload_n hx hb dLooker_tell_4 rfl (lv_at hl 2 rfl) ?_
  refine pu_Vi (rest := []) S hC (k1_Trees_firstOf l γ A κ x2) meTrees_firstOf qw_b381ab4f95 ⟨Nat.le_of_ble_eq_true rfl, Nat.le_of_ble_eq_true rfl⟩ (rv_1 hC hI) hI rfl hl.1 rfl (Nat.le_of_ble_eq_true rfl) dLooker_tell_5 ⟨Nat.zero_le _, Nat.zero_le _⟩ (fun r12 hr12 => ?_)
  refine lv_istore (lv' := [(4, .int r12), (0, .ref (γ.2.2.2 8)), (1, .ref (γ.2.2.2 6)), (2, .int x2), (3, .int x3)]) hx hb dLooker_tell_8 hl (by decide) rfl (fun ls hl => ?_)
  exact J10 _ ls _ _ x2 x3 r12 hI hS (by first | assumption | exact hlast) rfl (lv_sub hl [1, 2, 3, 4, 0] rfl)
section CPL
variable {p : Program} {l : Launch} {e : Env} {R : Room} {s : State} {m : MethodId} {args : Array Value} {below : List Frame} {meth : Method} {c : Code} {H : Heap} {locs : List Loc} {cells slots : Nat} {Q : State → Prop}
variable {pc : Nat} {ls : Array Slot} {rest : List Value} {D : va_G} {cl : List vw_C} {A Z : Nat → Prop} {a : Nat} {tys : List (ClassId × FieldType)} {ws : va_W} {H0 : Heap}
theorem st_copyi {cc : ByteArray} (hexec : p.tables.exec = Jvm.exec) (hb : c.code = cc) (hml : c.maxLocals = ls.size) {own : String} {index : Nat} (hown : s.vm.findClass own = some m.cls) (hlink : (Cond.methodLink own index arraycopyName).before args s = true) (hnat : (Cond.native arraycopyName).before args s = true) (hstat : (Cond.static arraycopyName).before args s = true) (hini : (Cond.initialized "java/lang/System").before args s = true)
    (hK : va_K D cl tys s) (hP : va_P D cl ws H) (hD : va_D Z ws) (hZA : ∀ q, Z q → A q) (hS : va_S A H0 H locs) (q1 t0 t1 : Nat) {a0 : Nat} {c0 c1 : ClassId} {n0 n1 : Nat} {f g : Nat → Int32} (hc0 : H[a0]? = some (vp_cell c0 (n0, .inl f))) (ha1 : ws[q1]? = some (a, .inl (c1, n1, .inl g))) (ht0 : tys[t0]? = some (c0, .int)) (ht1 : tys[t1]? = some (c1, .int))
    {sp dp n : Int32} (h1 : ¬ sp < 0) (h2 : ¬ dp < 0) (h3 : ¬ n < 0) (h4 : sp.toNatClampNeg + n.toNatClampNeg ≤ n0) (h5 : dp.toNatClampNeg + n.toNatClampNeg ≤ n1)
    (hframes : 1 ≤ R.frames) (hlocals : (rest.map fun v => v.category).sum + (nativeFrameWords "java/lang/System" "arraycopy" 5 + 11) ≤ R.locals) (hdg : decode cc pc = .ok (.invokestatic index, 3))
    (kk : ∀ (H1 : Heap) (locs1 : List Loc), va_P D cl (ws.set q1 (a, .inl (c1, n1, .inl (va_cpy f g sp.toNatClampNeg dp.toNatClampNeg n.toNatClampNeg)))) H1 → va_D Z (ws.set q1 (a, .inl (c1, n1, .inl (va_cpy f g sp.toNatClampNeg dp.toNatClampNeg n.toNatClampNeg)))) → va_S A H0 H1 locs1 → H1.size = H.size → (∀ q : Nat, q ≠ a → H1[q]? = H[q]?) → W p l e R s m args below meth c H1 locs1 cells slots Q (F0 m (pc + 3) ls rest)) : W p l e R s m args below meth c H locs cells slots Q (F0 m pc ls (.int n :: .int dp :: .ref a :: .int sp :: .ref a0 :: rest)) := by
  have nn : ∀ z : Int32, ¬ z < 0 → z.toInt = (z.toNatClampNeg : Int) := by
    intro z hz
    have hz0 : (0 : Int) ≤ z.toInt := by
      have := Int32.not_lt.mp hz
      simpa using Int32.le_iff_toInt_le.mp this
    show z.toInt = ((z.toInt.toNat : Nat) : Int)
    omega
  intro T hT X
  have hc1 : H[a]? = some (vp_cell c1 (n1, .inl g)) := hP q1 _ ha1
  obtain ⟨-, k0, hk0, cm0, hkk0⟩ := (hK.2 t0 _ ht0).1 n0 (fun j => .int (f j))
  obtain ⟨-, k1, hk1, cm1, hkk1⟩ := (hK.2 t1 _ ht1).1 n1 (fun j => .int (g j))
  obtain ⟨vm', X', step⟩ := X.arraycopy hexec hown hlink hnat hstat hini (src := a0) (dst := a) (cs := vp_cell c0 (n0, .inl f)) (cd := vp_cell c1 (n1, .inl g)) (srcPos := sp) (destPos := dp) (n := n) (by rw [hT]; exact hc0) (by rw [hT]; exact hc1)
    (fun _ h => by cases h) (fun _ h => by cases h) (fun h => by cases h) (fun h => by cases h) hk0 hk1 hkk0 hkk1 (by simp [refKind]) h1 h2 h3
    (by rw [nn sp h1, nn n h3]; show ¬ _ > ((arrV c0 n0 (fun j => .int (f j))).slots.size : Int); rw [arrV_size]; omega)
    (by rw [nn dp h2, nn n h3]; show ¬ _ > ((arrV c1 n1 (fun j => .int (g j))).slots.size : Int); rw [arrV_size]; omega)
    (fun vm₁ _ i hi => by
      have e : (vp_cell c0 (n0, .inl f)).slots.getD (sp.toNatClampNeg + i) .null = .int (f (sp.toNatClampNeg + i)) := by
        show (arrV c0 n0 (fun j => .int (f j))).slots.getD _ _ = _
        rw [Array.getD_eq_getD_getElem?, arrV_read _ _ (by omega)]
        rfl
      refine ⟨?_, ?_⟩
      · rw [e]
        rfl
      · rw [e]
        exact trivial)
    (g := F0 m pc ls (.int n :: .int dp :: .ref a :: .int sp :: .ref a0 :: rest)) rfl (by rw [hml]) (rest := rest) rfl (by rw [hb]; exact hdg) hframes (by show 2 * 0 + _ + _ ≤ _; omega)
  have e1 : copied (vp_cell c0 (n0, .inl f)) (vp_cell c1 (n1, .inl g)) sp dp n = vp_cell c1 (n1, .inl (va_cpy f g sp.toNatClampNeg dp.toNatClampNeg n.toNatClampNeg)) := va_copied (fun z => .int z) c0 c1 f g h4
  rw [e1] at X' step
  have hl : a < H.size := (Array.getElem?_eq_some_iff.mp hc1).1
  have hheap : ((T.setVm vm').setCell a (vp_cell c1 (n1, .inl (va_cpy f g sp.toNatClampNeg dp.toNatClampNeg n.toNatClampNeg)))).heap = H.setIfInBounds a (vp_cell c1 (n1, .inl (va_cpy f g sp.toNatClampNeg dp.toNatClampNeg n.toNatClampNeg))) := by rw [← hT]; rfl
  have oq : ∀ q : Nat, q ≠ a → (H.setIfInBounds a (vp_cell c1 (n1, .inl (va_cpy f g sp.toNatClampNeg dp.toNatClampNeg n.toNatClampNeg))))[q]? = H[q]? := fun q hq => by simp [Array.getElem?_setIfInBounds, Ne.symm hq]
  obtain ⟨t, a1, b1⟩ := kk _ _ (hP.set hD ha1 (show (H.setIfInBounds a _)[a]? = some _ by simp [Array.getElem?_setIfInBounds, hl]) oq) (hD.set ha1) ⟨by simp; exact hS.1, fun q g1 g2 => by
      rw [oq q (fun e => g2 (by rw [e]; exact hZA _ (hD.2 q1 _ ha1)))]
      exact hS.2.1 q g1 g2, fun q hq => by
      rcases List.mem_append.mp hq with h | h
      · exact hS.2.2 q h
      · obtain ⟨z, -, hz⟩ := List.mem_map.mp h
        rw [← hz]
        exact hZA _ (hD.2 q1 _ ha1)⟩ (by simp) oq _ hheap X'
  exact ⟨t, step t a1, b1⟩
end CPL
section OPR
variable {l : Launch} {y : MethodName} {bytes : ByteArray} {maxL mc ms fr lo : Nat} {av : List Value} {γ : gE} {P : Heap → Prop} {A : Nat → Prop}
theorem mu_openR {rt : FieldType} {PO : Nat → Heap → Prop} (hrt : (∃ n, rt = .object n) ∨ ∃ t, rt = .array t) (hy : plainName y.cls = true) (hn : (lg_sl av).length ≤ maxL)
    (body : ∀ (p : Program) (e : Env) (s : State) (m : MethodId) (args : Array Value) (below : List Frame) (meth : Method) (c : Code) (ls : Array Slot) (Q : State → Prop), bs_F p s m args c bytes maxL y.cls → CX γ s → (∀ q, s.heap.size ≤ q → A q) → P s.heap → (∀ (H : Heap) (locs : List Loc) (v : Nat) (pc : Nat) (ls : Array Slot), va_S A s.heap H locs → PO v H → decode bytes pc = .ok (.areturn, 1) → W p l e (bs_rm fr mc ms lo) s m args below meth c H locs mc ms Q (F0 m pc ls [.ref v])) → lv_has ls maxL (lv_args 0 av) → W p l e (bs_rm fr mc ms lo) s m args below meth c s.heap [] 0 0 Q (F0 m 0 ls [])) : MU l y bytes maxL (some rt) fr lo mc ms av γ A P (mQr PO A) := by
  refine Met.ofW (cc := bytes) (maxL := maxL) (ret := some rt) hy rfl ?_
  intro p e s m args below meth c s₁ B hml hv
  obtain ⟨rfl, hC, hA, hP⟩ := hv
  have hts := bs_hts (atoms_spec (ws := Cond.code y bytes maxL (some rt) :: bs_W0) B.pre)
  have hl := lv_entry av (n := maxL) hn
  rw [lg_entry_eq]
  exact body p e s m _ below meth c _ _ ⟨B.exec, B.bytes, hml, findClass_of_methodNamed B.named, hts⟩ hC hA hP (fun H locs v _ _ hS hp hdg => W.aret B.exec B.bytes B.returns hrt (Or.inr ⟨v, rfl⟩) (fun t ht _ => ⟨⟨(), v, rfl, trivial, by show PO v t.heap; rw [ht]; exact hp⟩, hS.F ht⟩) hS.2.2 hdg B.notSynchronized) hl
theorem mu_openFR {rt : FieldType} {PO : Nat → Heap → Prop} (hrt : (∃ n, rt = .object n) ∨ ∃ t, rt = .array t) (hy : plainFor y = true) (hn : (lg_sl av).length ≤ maxL)
    (body : ∀ (p : Program) (e : Env) (s : State) (m : MethodId) (args : Array Value) (below : List Frame) (meth : Method) (c : Code) (ls : Array Slot) (Q : State → Prop), bs_F p s m args c bytes maxL y.cls → CX γ s → (∀ q, s.heap.size ≤ q → A q) → P s.heap → (∀ (H : Heap) (locs : List Loc) (v : Nat) (pc : Nat) (ls : Array Slot), va_S A s.heap H locs → PO v H → decode bytes pc = .ok (.areturn, 1) → W p l e (bs_rm fr mc ms lo) s m args below meth c H locs mc ms Q (F0 m pc ls [.ref v])) → lv_has ls maxL (lv_args 0 av) → W p l e (bs_rm fr mc ms lo) s m args below meth c s.heap [] 0 0 Q (F0 m 0 ls [])) : MU l y bytes maxL (some rt) fr lo mc ms av γ A P (mQr PO A) := by
  refine va_MetF (cc := bytes) (maxL := maxL) (ret := some rt) hy rfl ?_
  intro p e s m args below meth c s₁ B hml hv
  obtain ⟨rfl, hC, hA, hP⟩ := hv
  have hts := bs_hts (atoms_spec (ws := Cond.code y bytes maxL (some rt) :: bs_W0) B.pre)
  have hl := lv_entry av (n := maxL) hn
  rw [lg_entry_eq]
  exact body p e s m _ below meth c _ _ ⟨B.exec, B.bytes, hml, findClass_of_methodNamed B.named, hts⟩ hC hA hP (fun H locs v _ _ hS hp hdg => W.aret B.exec B.bytes B.returns hrt (Or.inr ⟨v, rfl⟩) (fun t ht _ => ⟨⟨(), v, rfl, trivial, by show PO v t.heap; rw [ht]; exact hp⟩, hS.F ht⟩) hS.2.2 hdg B.notSynchronized) hl
end OPR
theorem one_P {D : va_G} {cl : List vw_C} {a : Nat} {cA : ClassId} {x : vp_A} {H : Heap} (h : H[a]? = some (vp_cell cA x)) : va_P D cl [(a, .inl (cA, x))] H := fun k q hq => by
  cases k with
  | zero => cases hq; exact h
  | succ k => cases hq
theorem one_D {A : Nat → Prop} {q0 : Nat × va_E} (h : A q0.1) : va_D A [q0] := by
  refine ⟨fun i j p q h1 h2 _ => ?_, fun k q hq => ?_⟩
  · have h3 : i < 1 := (List.getElem?_eq_some_iff.mp h1).1
    have h4 : j < 1 := (List.getElem?_eq_some_iff.mp h2).1
    omega
  · have h3 : k < 1 := (List.getElem?_eq_some_iff.mp hq).1
    rw [show k = 0 by omega] at hq
    cases hq
    exact h
/-- a world in which one array has grown (or stayed) -/
theorem wr_join {D : va_G} {cl : List vw_C} {Z : Nat → Prop} {ws : va_W} {H H1 : Heap} {i b r : Nat} {e0 : va_E} {cA : ClassId} {x : vp_A} (hP : va_P D cl ws H) (hD : va_D Z ws) (hi : ws[i]? = some (b, e0)) (hk : ∀ q : Nat, q < H.size → H1[q]? = H[q]?) (hc : H1[r]? = some (vp_cell cA x)) (hr : r = b ∨ H.size ≤ r) (hZ : Z r) :
    va_P D cl (ws.set i (r, .inl (cA, x))) H1 ∧ va_D Z (ws.set i (r, .inl (cA, x))) := by
  have hlt : i < ws.length := (List.getElem?_eq_some_iff.mp hi).1
  have at' : ∀ (k : Nat) (q : Nat × va_E), (ws.set i (r, .inl (cA, x)))[k]? = some q → (k = i ∧ q = (r, .inl (cA, x))) ∨ (k ≠ i ∧ ws[k]? = some q) := by
    intro k q hq
    by_cases h : k = i
    · subst h
      rw [List.getElem?_set_self hlt] at hq
      exact Or.inl ⟨rfl, (Option.some.inj hq).symm⟩
    · rw [List.getElem?_set_ne (Ne.symm h)] at hq
      exact Or.inr ⟨h, hq⟩
  refine ⟨fun k q hq => ?_, fun j k p q hp hq hpq => ?_, fun k q hq => ?_⟩
  · rcases at' k q hq with ⟨-, rfl⟩ | ⟨-, h⟩
    · exact hc
    · exact (hP k q h).kept (hk _ (hP k q h).lt)
  · rcases at' j p hp with ⟨h1, h2⟩ | ⟨h1, h2⟩ <;> rcases at' k q hq with ⟨h3, h4⟩ | ⟨h3, h4⟩
    · omega
    · exfalso
      rw [h2] at hpq
      rcases hr with hr | hr
      · exact h3 (hD.1 k i q (b, e0) h4 hi (by rw [← hpq]; exact hr))
      · have := (hP k q h4).lt
        rw [← hpq] at this
        exact absurd this (by simpa using hr)
    · exfalso
      rw [h4] at hpq
      rcases hr with hr | hr
      · exact h1 (hD.1 j i p (b, e0) h2 hi (by rw [hpq]; exact hr))
      · have := (hP j p h2).lt
        rw [hpq] at this
        exact absurd this (by simpa using hr)
    · exact hD.1 j k p q h2 h4 hpq
  · rcases at' k q hq with ⟨-, rfl⟩ | ⟨-, h⟩
    · exact hZ
    · exact hD.2 k q h
theorem sb_cpy0' {α : Type} {f g : Nat → α} {n j : Nat} (h : j < n) : va_cpy f g 0 0 n j = f j := by simp [va_cpy, h]
def wl (n N : Nat) : Nat := if N ≤ n then n else max N (2 * n)
def wc (n N : Nat) : Nat := if N ≤ n then 0 else 1
def wm (n N : Nat) : Nat := if N ≤ n then 0 else max N (2 * n)
theorem wl_ok {n N : Nat} (hn : n ≤ 8192) (hN : N ≤ 4096) : N ≤ wl n N ∧ n ≤ wl n N ∧ wl n N ≤ 8192 := by
  unfold wl
  by_cases h : N ≤ n
  · rw [if_pos h]
    omega
  · rw [if_neg h]
    omega
theorem in_sz {N n : Nat} (h : N < n) (hn : n ≤ 8192) : vp_in (nI N) n := vp_in_nI h (by omega)
theorem roots_eq {rt k : Nat} (h : k ≤ rt) : nI rt + (1 - nI k) = nI (rt + 1 - k) := by
  have h1 : (1 : Int32) = nI 1 := rfl
  rw [← pk_sub (a := rt + 1) (b := k) (by omega), ← nI_add rt 1, h1, Int32.sub_eq_add_neg, Int32.sub_eq_add_neg, Int32.add_assoc]
theorem upd_ok {f : Nat → Int32} {p N : Nat} {x : Int32} (hp : p = N) (hx : ¬ x < 0) (hf : ∀ k, k < N → ¬ f k < 0) : ∀ k, k < N + 1 → ¬ upd f p x k < 0 := by
  intro k hk
  subst hp
  by_cases h : k = p
  · subst h
    rw [pk_us]
    exact hx
  · rw [pk_un h]
    exact hf k (by omega)
theorem st_ok {f : Nat → Int32} {p N sc : Nat} {x : Int32} {g : Nat → Nat} (hp : p = sc) (hx : x = nI N) (q1 : ∀ k, k < sc → f k = nI (g k)) (q2 : ∀ i j, i ≤ j → j < sc → g i ≤ g j) (q3 : ∀ k, k < sc → g k ≤ N) :
    ∃ g : Nat → Nat, (∀ k, k < sc + 1 → upd f p x k = nI (g k)) ∧ (∀ i j, i ≤ j → j < sc + 1 → g i ≤ g j) ∧ ∀ k, k < sc + 1 → g k ≤ N := by
  subst hp
  refine ⟨fun k => if k = p then N else g k, fun k hk => ?_, fun i j hij hj => ?_, fun k hk => ?_⟩
  · by_cases h : k = p
    · subst h
      rw [pk_us]
      show x = nI (if k = k then N else g k)
      rw [if_pos rfl]
      exact hx
    · rw [pk_un h]
      show f k = nI (if k = p then N else g k)
      rw [if_neg h]
      exact q1 k (by omega)
  · show (if i = p then N else g i) ≤ (if j = p then N else g j)
    by_cases h : j = p
    · rw [if_pos h]
      by_cases h2 : i = p
      · rw [if_pos h2]
        exact Nat.le_refl _
      · rw [if_neg h2]
        exact q3 i (by omega)
    · rw [if_neg h, if_neg (by omega)]
      exact q2 i j hij (by omega)
  · show (if k = p then N else g k) ≤ N
    by_cases h : k = p
    · rw [if_pos h]
      exact Nat.le_refl _
    · rw [if_neg h]
      exact q3 k (by omega)
def ku (κ : Nat → Nat) (i v : Nat) : Nat → Nat := fun j => if j = i then v else κ j
def fz (Z : Nat → Prop) (Hb H : Heap) : Prop := Hb.size ≤ H.size ∧ ∀ q : Nat, q < Hb.size → ¬ Z q → H[q]? = Hb[q]?
theorem fz.rf (Z : Nat → Prop) {D : va_G} {cl : List vw_C} {ws : va_W} {H : Heap} (_ : va_P D cl ws H) : fz Z H H := ⟨Nat.le_refl _, fun _ _ _ => rfl⟩
theorem fz.step {Z : Nat → Prop} {Hb H H1 : Heap} (h : fz Z Hb H) (hz : H.size ≤ H1.size) (hk : ∀ q : Nat, q < H.size → ¬ Z q → H1[q]? = H[q]?) : fz Z Hb H1 := ⟨Nat.le_trans h.1 hz, fun q h1 h2 => (hk q (Nat.lt_of_lt_of_le h1 h.1) h2).trans (h.2 q h1 h2)⟩
theorem fz.put {Z : Nat → Prop} {Hb H H1 : Heap} {a : Nat} (h : fz Z Hb H) (hz : H1.size = H.size) (ho : ∀ q, q ≠ a → H1[q]? = H[q]?) (ha : Z a) : fz Z Hb H1 := h.step (Nat.le_of_eq hz.symm) (fun q _ h2 => ho q (fun e => h2 (by rw [e]; exact ha)))
theorem dn_lt {k v : Int32} {N : Nat} (hk : -2147483648 < k.toInt) (ev : v = k + (-1)) (h : k.toInt < (N : Int)) : v.toInt < (N : Int) := by
  rw [ev, mu_dn hk]
  omega
theorem rows_len {N : Nat} (h1 : 16 ≤ N) (h2 : N ≤ 8192) : (if nI N < 1 then 1 else nI N) * 4 = nI (4 * N) := by
  have h : ¬ nI N < 1 := nI_nlt (a := N) (b := 1) (by omega) (by omega)
  rw [if_neg h, Nat.mul_comm 4 N]
  exact pk_mul N 4
theorem qw_7c2f99d6ce : (Cond.methodLink R_jArrays 304 Lib.Math.min.name) ∈ bs_W0 := bs_in (in_tables_1_1 (List.mem_of_getElem? (i := 93) rfl)) rfl
theorem qw_917c68b328 : (Cond.methodLink R_jArrays 150 ⟨"java/lang/System", "arraycopy", "(Ljava/lang/Object;ILjava/lang/Object;II)V"⟩) ∈ bs_W0 := bs_in (in_tables_1_1 (List.mem_of_getElem? (i := 96) rfl)) rfl
theorem qw_8e969fb20a : (Cond.arrayClass .int) ∈ bs_W0 := bs_in (in_tables_1_1 (List.mem_of_getElem? (i := 59) rfl)) rfl
theorem qw_6933bd775d : (Cond.arrayClass .long) ∈ bs_W0 := bs_in (in_tables_1_1 (List.mem_of_getElem? (i := 175) rfl)) rfl
theorem qw_0d2310d85d : (Cond.methodLink R_TypeBook 251 Lib.Math.max.name) ∈ bs_W0 := bs_in (in_tables_1_1 (List.mem_of_getElem? (i := 80) rfl)) rfl
theorem qw_13b4208a4c : (Cond.methodLink R_TypeBook 256 yjArrays_copyOf) ∈ bs_W0 := bs_in (in_tables_1_1 (List.mem_of_getElem? (i := 83) rfl)) rfl
set_option maxHeartbeats 4000000 in
set_option maxRecDepth 100000 in
theorem c_copyOf (l : Launch) (γ : gE) (A : Nat → Prop) (a n k : Nat) (f : Nat → Int32) (H0 : Heap) (hk : n < k) (hk2 : k ≤ 65536) : MU l yjArrays_copyOf bjArrays_copyOf 3 (some (.array .int)) 1 60 1 k [.ref a, .int (nI k)] γ A (fun H => H = H0 ∧ A a ∧ H[a]? = some (vp_cell γ.2.1 (n, .inl f))) (mQr (fun r H1 => r = H0.size ∧ H1.size = H0.size + 1 ∧ (∀ q : Nat, q < H0.size → H1[q]? = H0[q]?) ∧ ∃ f' : Nat → Int32, H1[r]? = some (vp_cell γ.2.1 (k, .inl f')) ∧ ∀ j, j < n → f' j = f j) A) := by
  refine mu_openFR (Or.inr ⟨_, rfl⟩) (by decide +kernel) (Nat.le_of_ble_eq_true rfl) ?_
  intro p e s m args below meth c ls Q S hC hA hI hE hl
  obtain ⟨hx, hb, hml, hown, hW⟩ := id S
  obtain ⟨rfl, hAa, hcell⟩ := hI
  have hS : va_S A s.heap s.heap [] := va_S.rf
  have hl : lv_has ls 3 [(0, .ref a), (1, .int (nI k))] := hl
  have hP : va_P γ.1 vwCl [(a, .inl (γ.2.1, (n, .inl f)))] s.heap := one_P hcell
  have hD : va_D A [(a, .inl (γ.2.1, (n, .inl f)))] := one_D hAa
  have hlt : a < s.heap.size := (Array.getElem?_eq_some_iff.mp hcell).1
  refine lv_iload_n hx hb djArrays_copyOf_0 rfl (lv_at hl 1 rfl) ?_
  refine lv_aload_n hx hb djArrays_copyOf_1 rfl (lv_at hl 0 rfl) ?_
  refine va_alen hx hb hC.1 hP 0 0 rfl rfl (v := nI n) rfl djArrays_copyOf_2 ?_
  refine lv_icmp_ne (tgt := 14) hx hb djArrays_copyOf_3 (by decide) (fun _ => ?_) (fun c1 => absurd ((nI_eq (by omega) (by omega)).mp c1) (by omega))
  refine lv_iload_n hx hb djArrays_copyOf_14 rfl (lv_at hl 1 rfl) ?_
  refine va_newaK (atype := .int) (N := k) hx hb (hW _ qw_8e969fb20a) rfl djArrays_copyOf_15 rfl (nI_pos (by omega)) (nI_clamp (by omega)) (by show k * 4 ≤ _; omega) (Nat.le_refl _) (Nat.le_of_eq (Nat.zero_add k)) rfl (fun H cA e1 z1 o1 hAr hNm => ?_)
  have hcA : cA = γ.2.1 := Option.some.inj (hNm.symm.trans (va_nm_int (hC.1.2 0 _ rfl).2))
  subst hcA
  have hl := hl
  refine W.eq (g2 := F0 m 17 ls [.ref s.heap.size]) rfl ?_
  have hPn : va_P γ.1 vwCl [(s.heap.size, .inl (γ.2.1, (k, .inl (fun _ => 0))))] H := one_P e1
  have hDn : va_D (fun q => s.heap.size ≤ q) [(s.heap.size, .inl (γ.2.1, (k, .inl (fun _ => 0))))] := one_D (Nat.le_refl _)
  have hco : H[a]? = some (vp_cell γ.2.1 (n, .inl f)) := (o1 a hlt).trans hcell
  have hPo : va_P γ.1 vwCl [(a, .inl (γ.2.1, (n, .inl f)))] H := one_P hco
  have hS : va_S A s.heap H [] := ⟨by omega, fun q h1 _ => o1 q h1, fun _ h => by cases h⟩
  refine lv_astore_n (lv' := [(2, .ref s.heap.size), (0, .ref a), (1, .int (nI k))]) hx hb djArrays_copyOf_17 rfl hl (by decide) rfl (fun ls hl => ?_)
  refine lv_aload_n hx hb djArrays_copyOf_18 rfl (lv_at hl 1 rfl) ?_
  refine lv_iconst (v := 0) hx hb djArrays_copyOf_19 (by decide) ?_
  refine lv_aload_n hx hb djArrays_copyOf_20 rfl (lv_at hl 0 rfl) ?_
  refine lv_iconst (v := 0) hx hb djArrays_copyOf_21 (by decide) ?_
  refine lv_aload_n hx hb djArrays_copyOf_22 rfl (lv_at hl 1 rfl) ?_
  refine va_alen hx hb hC.1 hPo 0 0 rfl rfl (v := nI n) rfl djArrays_copyOf_23 ?_
  refine lv_iload_n hx hb djArrays_copyOf_24 rfl (lv_at hl 2 rfl) ?_
  refine va_mmin (rest := [.int 0, .ref s.heap.size, .int 0, .ref a]) hx hb (hml.trans hl.1.symm) hown (hW _ qw_7c2f99d6ce) (hW _ qw_1a05fe5770) (hW _ qw_0001fcaade) (hW _ qw_5e99ca5e66) (Nat.le_of_ble_eq_true rfl) (Nat.le_of_ble_eq_true rfl) (Nat.le_refl _) (Nat.le_of_eq (Nat.zero_add k)) djArrays_copyOf_25 ?_
  rw [if_neg (nI_nlt (a := k) (b := n) (by omega) (by omega))]
  refine st_copyi hx hb (hml.trans hl.1.symm) hown (hW _ qw_917c68b328) (hW _ qw_d8fd3cc6ff) (hW _ qw_fe691cbd75) (hW _ qw_3f8a6f3ebd) hC.1 hPn hDn (fun q h => hA q h) hS 0 0 0 hco rfl rfl rfl (by decide) (by decide) (nI_pos (by omega)) (by rw [sb_cl0, nI_clamp (by omega)]; omega) (by rw [sb_cl0, nI_clamp (by omega)]; omega) (Nat.le_of_ble_eq_true rfl) (Nat.le_of_ble_eq_true rfl) djArrays_copyOf_28 (fun H1 locs hP1 hD1 hS hz ho => ?_)
  refine lv_aload_n hx hb djArrays_copyOf_31 rfl (lv_at hl 0 rfl) ?_
  refine W.cs (Nat.zero_add 1) (Nat.zero_add k) ?_
  refine hE _ _ _ _ _ hS ⟨rfl, by rw [hz]; exact z1, fun q hq => (ho q (by omega)).trans (o1 q hq), _, hP1 0 _ rfl, fun j hj => ?_⟩ djArrays_copyOf_32
  rw [sb_cl0, nI_clamp (by omega)]
  exact sb_cpy0' hj

set_option maxHeartbeats 4000000 in
set_option maxRecDepth 100000 in
theorem c_copyOfL (l : Launch) (γ : gE) (A : Nat → Prop) (a n k : Nat) (f : Nat → Int64) (H0 : Heap) (hk : n < k) (hk2 : k ≤ 65536) : MU l yjArrays_copyOfL bjArrays_copyOfL 3 (some (.array .long)) 1 60 1 k [.ref a, .int (nI k)] γ A (fun H => H = H0 ∧ A a ∧ H[a]? = some (vp_cell γ.2.2.1 (n, .inr (.inl f)))) (mQr (fun r H1 => r = H0.size ∧ H1.size = H0.size + 1 ∧ (∀ q : Nat, q < H0.size → H1[q]? = H0[q]?) ∧ ∃ f' : Nat → Int64, H1[r]? = some (vp_cell γ.2.2.1 (k, .inr (.inl f'))) ∧ ∀ j, j < n → f' j = f j) A) := by
  refine mu_openFR (Or.inr ⟨_, rfl⟩) (by decide +kernel) (Nat.le_of_ble_eq_true rfl) ?_
  intro p e s m args below meth c ls Q S hC hA hI hE hl
  obtain ⟨hx, hb, hml, hown, hW⟩ := id S
  obtain ⟨rfl, hAa, hcell⟩ := hI
  have hS : va_S A s.heap s.heap [] := va_S.rf
  have hl : lv_has ls 3 [(0, .ref a), (1, .int (nI k))] := hl
  have hP : va_P γ.1 vwCl [(a, .inl (γ.2.2.1, (n, .inr (.inl f))))] s.heap := one_P hcell
  have hD : va_D A [(a, .inl (γ.2.2.1, (n, .inr (.inl f))))] := one_D hAa
  have hlt : a < s.heap.size := (Array.getElem?_eq_some_iff.mp hcell).1
  refine lv_iload_n hx hb djArrays_copyOfL_0 rfl (lv_at hl 1 rfl) ?_
  refine lv_aload_n hx hb djArrays_copyOfL_1 rfl (lv_at hl 0 rfl) ?_
  refine va_alen hx hb hC.1 hP 0 1 rfl rfl (v := nI n) rfl djArrays_copyOfL_2 ?_
  refine lv_icmp_ne (tgt := 14) hx hb djArrays_copyOfL_3 (by decide) (fun _ => ?_) (fun c1 => absurd ((nI_eq (by omega) (by omega)).mp c1) (by omega))
  refine lv_iload_n hx hb djArrays_copyOfL_14 rfl (lv_at hl 1 rfl) ?_
  refine va_newaK (atype := .long) (N := k) hx hb (hW _ qw_6933bd775d) rfl djArrays_copyOfL_15 rfl (nI_pos (by omega)) (nI_clamp (by omega)) (by show k * 8 ≤ _; omega) (Nat.le_refl _) (Nat.le_of_eq (Nat.zero_add k)) rfl (fun H cA e1 z1 o1 hAr hNm => ?_)
  have hcA : cA = γ.2.2.1 := Option.some.inj (hNm.symm.trans (va_nm_long (hC.1.2 1 _ rfl).2))
  subst hcA
  have hl := hl
  refine W.eq (g2 := F0 m 17 ls [.ref s.heap.size]) rfl ?_
  have hPn : va_P γ.1 vwCl [(s.heap.size, .inl (γ.2.2.1, (k, .inr (.inl (fun _ => 0)))))] H := one_P e1
  have hDn : va_D (fun q => s.heap.size ≤ q) [(s.heap.size, .inl (γ.2.2.1, (k, .inr (.inl (fun _ => 0)))))] := one_D (Nat.le_refl _)
  have hco : H[a]? = some (vp_cell γ.2.2.1 (n, .inr (.inl f))) := (o1 a hlt).trans hcell
  have hPo : va_P γ.1 vwCl [(a, .inl (γ.2.2.1, (n, .inr (.inl f))))] H := one_P hco
  have hS : va_S A s.heap H [] := ⟨by omega, fun q h1 _ => o1 q h1, fun _ h => by cases h⟩
  refine lv_astore_n (lv' := [(2, .ref s.heap.size), (0, .ref a), (1, .int (nI k))]) hx hb djArrays_copyOfL_17 rfl hl (by decide) rfl (fun ls hl => ?_)
  refine lv_aload_n hx hb djArrays_copyOfL_18 rfl (lv_at hl 1 rfl) ?_
  refine lv_iconst (v := 0) hx hb djArrays_copyOfL_19 (by decide) ?_
  refine lv_aload_n hx hb djArrays_copyOfL_20 rfl (lv_at hl 0 rfl) ?_
  refine lv_iconst (v := 0) hx hb djArrays_copyOfL_21 (by decide) ?_
  refine lv_aload_n hx hb djArrays_copyOfL_22 rfl (lv_at hl 1 rfl) ?_
  refine va_alen hx hb hC.1 hPo 0 1 rfl rfl (v := nI n) rfl djArrays_copyOfL_23 ?_
  refine lv_iload_n hx hb djArrays_copyOfL_24 rfl (lv_at hl 2 rfl) ?_
  refine va_mmin (rest := [.int 0, .ref s.heap.size, .int 0, .ref a]) hx hb (hml.trans hl.1.symm) hown (hW _ qw_7c2f99d6ce) (hW _ qw_1a05fe5770) (hW _ qw_0001fcaade) (hW _ qw_5e99ca5e66) (Nat.le_of_ble_eq_true rfl) (Nat.le_of_ble_eq_true rfl) (Nat.le_refl _) (Nat.le_of_eq (Nat.zero_add k)) djArrays_copyOfL_25 ?_
  rw [if_neg (nI_nlt (a := k) (b := n) (by omega) (by omega))]
  refine st_copyl hx hb (hml.trans hl.1.symm) hown (hW _ qw_917c68b328) (hW _ qw_d8fd3cc6ff) (hW _ qw_fe691cbd75) (hW _ qw_3f8a6f3ebd) hC.1 hPn hDn (fun q h => hA q h) hS 0 1 1 hco rfl rfl rfl (by decide) (by decide) (nI_pos (by omega)) (by rw [sb_cl0, nI_clamp (by omega)]; omega) (by rw [sb_cl0, nI_clamp (by omega)]; omega) (Nat.le_of_ble_eq_true rfl) (Nat.le_of_ble_eq_true rfl) djArrays_copyOfL_28 (fun H1 locs hP1 hD1 hS hz ho => ?_)
  refine lv_aload_n hx hb djArrays_copyOfL_31 rfl (lv_at hl 0 rfl) ?_
  refine W.cs (Nat.zero_add 1) (Nat.zero_add k) ?_
  refine hE _ _ _ _ _ hS ⟨rfl, by rw [hz]; exact z1, fun q hq => (ho q (by omega)).trans (o1 q hq), _, hP1 0 _ rfl, fun j hj => ?_⟩ djArrays_copyOfL_32
  rw [sb_cl0, nI_clamp (by omega)]
  exact sb_cpy0' hj

set_option maxHeartbeats 4000000 in
set_option maxRecDepth 100000 in
theorem c_withRoom (l : Launch) (γ : gE) (A : Nat → Prop) (a n N : Nat) (f : Nat → Int32) (H0 : Heap) (hN : N ≤ 4096) (hn : n ≤ 8192) : MU l yTypeBook_withRoom bTypeBook_withRoom 2 (some (.array .int)) 2 82 (wc n N) (wm n N) [.ref a, .int (nI N)] γ A (fun H => H = H0 ∧ A a ∧ H[a]? = some (vp_cell γ.2.1 (n, .inl f))) (mQr (fun r H1 => (r = a ∨ H0.size ≤ r) ∧ A r ∧ H0.size ≤ H1.size ∧ (∀ q : Nat, q < H0.size → H1[q]? = H0[q]?) ∧ ∃ f' : Nat → Int32, H1[r]? = some (vp_cell γ.2.1 (wl n N, .inl f')) ∧ ∀ j, j < n → f' j = f j) A) := by
  refine mu_openR (Or.inr ⟨_, rfl⟩) (by decide) (Nat.le_of_ble_eq_true rfl) ?_
  intro p e s m args below meth c ls Q S hC hA hI hE hl
  obtain ⟨hx, hb, hml, hown, hW⟩ := id S
  obtain ⟨rfl, hAa, hcell⟩ := hI
  have hS : va_S A s.heap s.heap [] := va_S.rf
  have hl : lv_has ls 2 [(0, .ref a), (1, .int (nI N))] := hl
  have hP : va_P γ.1 vwCl [(a, .inl (γ.2.1, (n, .inl f)))] s.heap := one_P hcell
  have hlt : a < s.heap.size := (Array.getElem?_eq_some_iff.mp hcell).1
  refine lv_iload_n hx hb dTypeBook_withRoom_0 rfl (lv_at hl 1 rfl) ?_
  refine lv_aload_n hx hb dTypeBook_withRoom_1 rfl (lv_at hl 0 rfl) ?_
  refine va_alen hx hb hC.1 hP 0 0 rfl rfl (v := nI n) rfl dTypeBook_withRoom_2 ?_
  refine lv_icmp_gt (tgt := 10) hx hb dTypeBook_withRoom_3 (by decide) (fun c1 => ?_) (fun c1 => ?_)
  · have hgt : n < N := (nI_ltI (by omega) (by omega)).mp c1
    have e1 : wc n N = 1 := if_neg (by omega)
    have e2 : wm n N = max N (2 * n) := if_neg (by omega)
    have e3 : wl n N = max N (2 * n) := if_neg (by omega)
    rw [e1, e2] at hE ⊢
    rw [e3] at hE
    have hm : max N (2 * n) ≤ 65536 := by omega
    have hm2 : n < max N (2 * n) := by omega
    refine lv_aload_n hx hb dTypeBook_withRoom_10 rfl (lv_at hl 0 rfl) ?_
    refine lv_iload_n hx hb dTypeBook_withRoom_11 rfl (lv_at hl 1 rfl) ?_
    refine lv_iconst (v := 2) hx hb dTypeBook_withRoom_12 (by decide) ?_
    refine lv_aload_n hx hb dTypeBook_withRoom_13 rfl (lv_at hl 0 rfl) ?_
    refine va_alen hx hb hC.1 hP 0 0 rfl rfl (v := nI n) rfl dTypeBook_withRoom_14 ?_
    refine lv_imul hx hb dTypeBook_withRoom_15 ?_
    refine va_mmax (rest := [.ref a]) hx hb (hml.trans hl.1.symm) hown (hW _ qw_0d2310d85d) (hW _ qw_7cc87a9f9b) (hW _ qw_0001fcaade) (hW _ qw_6b973c1ba4) (Nat.le_of_ble_eq_true rfl) (Nat.le_of_ble_eq_true rfl) (Nat.zero_le _) (Nat.zero_le _) dTypeBook_withRoom_16 ?_
    have em : (if nI N < 2 * nI n then 2 * nI n else nI N) = nI (max N (2 * n)) := by
      have h2 : (2 : Int32) * nI n = nI (2 * n) := pk_mul 2 n
      rw [h2]
      by_cases h : N < 2 * n
      · rw [if_pos (nI_lt h (by omega))]
        congr 1
        omega
      · rw [if_neg (nI_nlt (by omega) (by omega))]
        congr 1
        omega
    rw [em]
    refine mu_Sr (rest := []) S hC (fun q h => hA q h) (fun q h => h) hS (c_copyOf l γ A a n (max N (2 * n)) f s.heap hm2 hm) mejArrays_copyOf qw_13b4208a4c ⟨Nat.le_of_ble_eq_true rfl, Nat.le_of_ble_eq_true rfl⟩ ⟨rfl, hAa, hcell⟩ rfl hl.1 rfl (Nat.le_of_ble_eq_true rfl) dTypeBook_withRoom_19 ⟨Nat.le_refl _, Nat.le_of_eq (Nat.zero_add _)⟩ (fun r H locs hPO hS hz hk => ?_)
    obtain ⟨e4, e5, e6, f', e7, e8⟩ := hPO
    refine W.cs (Nat.zero_add 1) (Nat.zero_add _) ?_
    exact hE _ _ _ _ _ hS ⟨Or.inr (Nat.le_of_eq e4.symm), hA _ (Nat.le_of_eq e4.symm), by omega, e6, f', e7, e8⟩ dTypeBook_withRoom_22
  · have hle : N ≤ n := by
      rcases Nat.lt_or_ge n N with h | h
      · exact absurd ((nI_ltI (by omega) (by omega)).mpr h) c1
      · exact h
    have e1 : wc n N = 0 := if_pos hle
    have e2 : wm n N = 0 := if_pos hle
    have e3 : wl n N = n := if_pos hle
    rw [e1, e2] at hE ⊢
    rw [e3] at hE
    refine lv_aload_n hx hb dTypeBook_withRoom_6 rfl (lv_at hl 0 rfl) ?_
    refine lv_goto (tgt := 22) hx hb dTypeBook_withRoom_7 (by decide) ?_
    exact hE _ _ _ _ _ hS ⟨Or.inl rfl, hAa, Nat.le_refl _, fun _ _ => rfl, f, hcell, fun _ _ => rfl⟩ dTypeBook_withRoom_22
theorem qn_fe62be3d74 : (Cond.methodLinkNest R_Types 56 yTypeBook_withRoom "TypeBook") ∈ lw_tbl := in_tables_1_1 (List.mem_of_getElem? (i := 138) rfl)
set_option maxHeartbeats 4000000 in
set_option maxRecDepth 100000 in
theorem c_Types_put (l : Launch) (γ : gE) (Z : Nat → Prop) (a N L : Nat) (x1 : Int32) (x2 : Int32) (x3 : Int32) (x4 : Int32) (hN : N ≤ 4000) : MU l yTypes_put bTypes_put 5 (some .int) 3 103 (0 + wc L (N + 1) + wc L (N + 1) + wc L (N + 1) + wc L (N + 1)) (0 + wm L (N + 1) + wm L (N + 1) + wm L (N + 1) + wm L (N + 1)) [.ref a, .int x1, .int x2, .int x3, .int x4] γ Z (cmp γ (fTypes γ a N L) Z) (mQi (fun r H => r = nI N ∧ cmp γ (fTypes γ a (N + 1) (wl L (N + 1))) Z H) Z) := by
  refine mu_openI (by decide) (Nat.le_of_ble_eq_true rfl) ?_
  intro p e s m args below meth c ls Q S hnm hC hA hI hE hl
  obtain ⟨hx, hb, hml, hown, hW⟩ := id S
  have hS : va_S Z s.heap s.heap [] := va_S.rf
  have hl : lv_has ls 5 [(0, .ref a), (1, .int x1), (2, .int x2), (3, .int x3), (4, .int x4)] := hl
  have hb9 : L ≤ 8192 ∧ N ≤ L := (by obtain ⟨w9, ⟨_, _, _, _, _, _, _, _, _, h1, h2, _⟩, _, _⟩ := id hI; exact ⟨h2, h1⟩)
  have hwl := wl_ok (n := L) (N := N + 1) (by omega) (by omega)
  refine lv_aload_n hx hb dTypes_put_0 rfl (lv_at hl 0 rfl) ?_
  refine lv_aload_n hx hb dTypes_put_1 rfl (lv_at hl 0 rfl) ?_
  obtain ⟨ws_2, ⟨b0_2, b1_2, b2_2, b3_2, f0_2, f1_2, f2_2, f3_2, rfl, h1_2, h2_2, h3_2⟩, hP, hD⟩ := id hI
  have hP : va_P γ.1 vwCl [(a, .inr (3, [.ref b0_2, .ref b1_2, .ref b2_2, .ref b3_2, .int (nI N)])), (b0_2, .inl (γ.2.1, L, .inl f0_2)), (b1_2, .inl (γ.2.1, L, .inl f1_2)), (b2_2, .inl (γ.2.1, L, .inl f2_2)), (b3_2, .inl (γ.2.1, L, .inl f3_2))] _ := hP
  have hD : va_D Z [(a, .inr (3, [.ref b0_2, .ref b1_2, .ref b2_2, .ref b3_2, .int (nI N)])), (b0_2, .inl (γ.2.1, L, .inl f0_2)), (b1_2, .inl (γ.2.1, L, .inl f1_2)), (b2_2, .inl (γ.2.1, L, .inl f2_2)), (b3_2, .inl (γ.2.1, L, .inl f3_2))] := hD
  refine va_get (D := γ.1) (ci := 3) (v := .ref b0_2) (C := R_Types) (T := T_Types) (N := 5) (Ts := bs_W0) hx hb hW in_Types hown hC.1 hP 0 rfl rfl 0 (by decide) (hW _ qw_9652573c2f) (fun _ h9 => h9) rfl dTypes_put_2 ?_
  refine lv_aload_n hx hb dTypes_put_5 rfl (lv_at hl 0 rfl) ?_
  refine va_get (D := γ.1) (ci := 3) (v := .int (nI N)) (C := R_Types) (T := T_Types) (N := 5) (Ts := bs_W0) hx hb hW in_Types hown hC.1 hP 0 rfl rfl 4 (by decide) (hW _ qw_f9da65449d) (fun _ h9 => h9) rfl dTypes_put_6 ?_
  refine lv_topi (fun v25 ev25 => ?_)
  refine lv_iconst (v := 1) hx hb dTypes_put_9 (by decide) ?_
  refine lv_iadd hx hb dTypes_put_10 ?_
  refine lv_topi (fun v26 ev26 => ?_)
  have ev26 : v26 = nI (N + 1) := by rw [ev26, ev25]; exact nI_add (N) (1)
  obtain rfl : v26 = nI (N + 1) := ev26
  refine mu_Tr (rest := [.ref a]) S hC (fun q h => hA q (Nat.le_trans hS.1 h)) (fun q h => h) hS (c_withRoom l γ Z b0_2 L (N + 1) f0_2 _ (by omega) (by omega)) meTypeBook_withRoom (hC.2 _ qn_fe62be3d74 rfl) ⟨Nat.le_of_ble_eq_true rfl, Nat.le_of_ble_eq_true rfl⟩ ⟨rfl, hD.2 1 _ rfl, hP 1 _ rfl⟩ rfl hl.1 rfl (Nat.le_of_ble_eq_true rfl) dTypes_put_11 ⟨(by show _ ≤ 0 + wc L (N + 1) + wc L (N + 1) + wc L (N + 1) + wc L (N + 1); omega), (by show _ ≤ 0 + wm L (N + 1) + wm L (N + 1) + wm L (N + 1) + wm L (N + 1); omega)⟩ (fun r27 Hr27 locs hPO hS _ _ => ?_)
  obtain ⟨g1r27, g2r27, g3r27, g4r27, fr27, g5r27, g6r27⟩ := hPO
  obtain ⟨hP, hD⟩ := wr_join (i := 1) hP hD rfl g4r27 g5r27 g1r27 g2r27
  have hP : va_P γ.1 vwCl [(a, .inr (3, [.ref b0_2, .ref b1_2, .ref b2_2, .ref b3_2, .int (nI N)])), (r27, .inl (γ.2.1, wl L (N + 1), .inl fr27)), (b1_2, .inl (γ.2.1, L, .inl f1_2)), (b2_2, .inl (γ.2.1, L, .inl f2_2)), (b3_2, .inl (γ.2.1, L, .inl f3_2))] _ := hP
  have hD : va_D Z [(a, .inr (3, [.ref b0_2, .ref b1_2, .ref b2_2, .ref b3_2, .int (nI N)])), (r27, .inl (γ.2.1, wl L (N + 1), .inl fr27)), (b1_2, .inl (γ.2.1, L, .inl f1_2)), (b2_2, .inl (γ.2.1, L, .inl f2_2)), (b3_2, .inl (γ.2.1, L, .inl f3_2))] := hD
  refine va_put (D := γ.1) (ci := 3) (v := .ref r27) (ty := .array .int) (C := R_Types) (T := T_Types) (N := 5) (Ts := bs_W0) hx hb hW in_Types t_Types t_Types_ok n_Types hown hC.1 hP hD hS 0 rfl rfl 0 (by decide) (hW _ qw_9652573c2f) (fun _ h9 => h9) rfl (by decide +kernel) rfl rfl (Nat.le_of_ble_eq_true rfl) dTypes_put_14 (fun H locs hP hD hS => ?_)
  have hP : va_P γ.1 vwCl [(a, .inr (3, [.ref r27, .ref b1_2, .ref b2_2, .ref b3_2, .int (nI N)])), (r27, .inl (γ.2.1, wl L (N + 1), .inl fr27)), (b1_2, .inl (γ.2.1, L, .inl f1_2)), (b2_2, .inl (γ.2.1, L, .inl f2_2)), (b3_2, .inl (γ.2.1, L, .inl f3_2))] _ := hP
  have hD : va_D Z [(a, .inr (3, [.ref r27, .ref b1_2, .ref b2_2, .ref b3_2, .int (nI N)])), (r27, .inl (γ.2.1, wl L (N + 1), .inl fr27)), (b1_2, .inl (γ.2.1, L, .inl f1_2)), (b2_2, .inl (γ.2.1, L, .inl f2_2)), (b3_2, .inl (γ.2.1, L, .inl f3_2))] := hD
  refine lv_aload_n hx hb dTypes_put_17 rfl (lv_at hl 0 rfl) ?_
  refine lv_aload_n hx hb dTypes_put_18 rfl (lv_at hl 0 rfl) ?_
  refine va_get (D := γ.1) (ci := 3) (v := .ref b1_2) (C := R_Types) (T := T_Types) (N := 5) (Ts := bs_W0) hx hb hW in_Types hown hC.1 hP 0 rfl rfl 1 (by decide) (hW _ qw_3e3b315a67) (fun _ h9 => h9) rfl dTypes_put_19 ?_
  refine lv_aload_n hx hb dTypes_put_22 rfl (lv_at hl 0 rfl) ?_
  refine va_get (D := γ.1) (ci := 3) (v := .int (nI N)) (C := R_Types) (T := T_Types) (N := 5) (Ts := bs_W0) hx hb hW in_Types hown hC.1 hP 0 rfl rfl 4 (by decide) (hW _ qw_f9da65449d) (fun _ h9 => h9) rfl dTypes_put_23 ?_
  refine lv_topi (fun v28 ev28 => ?_)
  refine lv_iconst (v := 1) hx hb dTypes_put_26 (by decide) ?_
  refine lv_iadd hx hb dTypes_put_27 ?_
  refine lv_topi (fun v29 ev29 => ?_)
  have ev29 : v29 = nI (N + 1) := by rw [ev29, ev28]; exact nI_add (N) (1)
  obtain rfl : v29 = nI (N + 1) := ev29
  refine mu_Tr (rest := [.ref a]) S hC (fun q h => hA q (Nat.le_trans hS.1 h)) (fun q h => h) hS (c_withRoom l γ Z b1_2 L (N + 1) f1_2 _ (by omega) (by omega)) meTypeBook_withRoom (hC.2 _ qn_fe62be3d74 rfl) ⟨Nat.le_of_ble_eq_true rfl, Nat.le_of_ble_eq_true rfl⟩ ⟨rfl, hD.2 2 _ rfl, hP 2 _ rfl⟩ rfl hl.1 rfl (Nat.le_of_ble_eq_true rfl) dTypes_put_28 ⟨(by show _ ≤ 0 + wc L (N + 1) + wc L (N + 1) + wc L (N + 1) + wc L (N + 1); omega), (by show _ ≤ 0 + wm L (N + 1) + wm L (N + 1) + wm L (N + 1) + wm L (N + 1); omega)⟩ (fun r30 Hr30 locs hPO hS _ _ => ?_)
  obtain ⟨g1r30, g2r30, g3r30, g4r30, fr30, g5r30, g6r30⟩ := hPO
  obtain ⟨hP, hD⟩ := wr_join (i := 2) hP hD rfl g4r30 g5r30 g1r30 g2r30
  have hP : va_P γ.1 vwCl [(a, .inr (3, [.ref r27, .ref b1_2, .ref b2_2, .ref b3_2, .int (nI N)])), (r27, .inl (γ.2.1, wl L (N + 1), .inl fr27)), (r30, .inl (γ.2.1, wl L (N + 1), .inl fr30)), (b2_2, .inl (γ.2.1, L, .inl f2_2)), (b3_2, .inl (γ.2.1, L, .inl f3_2))] _ := hP
  have hD : va_D Z [(a, .inr (3, [.ref r27, .ref b1_2, .ref b2_2, .ref b3_2, .int (nI N)])), (r27, .inl (γ.2.1, wl L (N + 1), .inl fr27)), (r30, .inl (γ.2.1, wl L (N + 1), .inl fr30)), (b2_2, .inl (γ.2.1, L, .inl f2_2)), (b3_2, .inl (γ.2.1, L, .inl f3_2))] := hD
  refine va_put (D := γ.1) (ci := 3) (v := .ref r30) (ty := .array .int) (C := R_Types) (T := T_Types) (N := 5) (Ts := bs_W0) hx hb hW in_Types t_Types t_Types_ok n_Types hown hC.1 hP hD hS 0 rfl rfl 1 (by decide) (hW _ qw_3e3b315a67) (fun _ h9 => h9) rfl (by decide +kernel) rfl rfl (Nat.le_of_ble_eq_true rfl) dTypes_put_31 (fun H locs hP hD hS => ?_)
  have hP : va_P γ.1 vwCl [(a, .inr (3, [.ref r27, .ref r30, .ref b2_2, .ref b3_2, .int (nI N)])), (r27, .inl (γ.2.1, wl L (N + 1), .inl fr27)), (r30, .inl (γ.2.1, wl L (N + 1), .inl fr30)), (b2_2, .inl (γ.2.1, L, .inl f2_2)), (b3_2, .inl (γ.2.1, L, .inl f3_2))] _ := hP
  have hD : va_D Z [(a, .inr (3, [.ref r27, .ref r30, .ref b2_2, .ref b3_2, .int (nI N)])), (r27, .inl (γ.2.1, wl L (N + 1), .inl fr27)), (r30, .inl (γ.2.1, wl L (N + 1), .inl fr30)), (b2_2, .inl (γ.2.1, L, .inl f2_2)), (b3_2, .inl (γ.2.1, L, .inl f3_2))] := hD
  refine lv_aload_n hx hb dTypes_put_34 rfl (lv_at hl 0 rfl) ?_
  refine lv_aload_n hx hb dTypes_put_35 rfl (lv_at hl 0 rfl) ?_
  refine va_get (D := γ.1) (ci := 3) (v := .ref b2_2) (C := R_Types) (T := T_Types) (N := 5) (Ts := bs_W0) hx hb hW in_Types hown hC.1 hP 0 rfl rfl 2 (by decide) (hW _ qw_dd571233a8) (fun _ h9 => h9) rfl dTypes_put_36 ?_
  refine lv_aload_n hx hb dTypes_put_39 rfl (lv_at hl 0 rfl) ?_
  refine va_get (D := γ.1) (ci := 3) (v := .int (nI N)) (C := R_Types) (T := T_Types) (N := 5) (Ts := bs_W0) hx hb hW in_Types hown hC.1 hP 0 rfl rfl 4 (by decide) (hW _ qw_f9da65449d) (fun _ h9 => h9) rfl dTypes_put_40 ?_
  refine lv_topi (fun v31 ev31 => ?_)
  refine lv_iconst (v := 1) hx hb dTypes_put_43 (by decide) ?_
  refine lv_iadd hx hb dTypes_put_44 ?_
  refine lv_topi (fun v32 ev32 => ?_)
  have ev32 : v32 = nI (N + 1) := by rw [ev32, ev31]; exact nI_add (N) (1)
  obtain rfl : v32 = nI (N + 1) := ev32
  refine mu_Tr (rest := [.ref a]) S hC (fun q h => hA q (Nat.le_trans hS.1 h)) (fun q h => h) hS (c_withRoom l γ Z b2_2 L (N + 1) f2_2 _ (by omega) (by omega)) meTypeBook_withRoom (hC.2 _ qn_fe62be3d74 rfl) ⟨Nat.le_of_ble_eq_true rfl, Nat.le_of_ble_eq_true rfl⟩ ⟨rfl, hD.2 3 _ rfl, hP 3 _ rfl⟩ rfl hl.1 rfl (Nat.le_of_ble_eq_true rfl) dTypes_put_45 ⟨(by show _ ≤ 0 + wc L (N + 1) + wc L (N + 1) + wc L (N + 1) + wc L (N + 1); omega), (by show _ ≤ 0 + wm L (N + 1) + wm L (N + 1) + wm L (N + 1) + wm L (N + 1); omega)⟩ (fun r33 Hr33 locs hPO hS _ _ => ?_)
  obtain ⟨g1r33, g2r33, g3r33, g4r33, fr33, g5r33, g6r33⟩ := hPO
  obtain ⟨hP, hD⟩ := wr_join (i := 3) hP hD rfl g4r33 g5r33 g1r33 g2r33
  have hP : va_P γ.1 vwCl [(a, .inr (3, [.ref r27, .ref r30, .ref b2_2, .ref b3_2, .int (nI N)])), (r27, .inl (γ.2.1, wl L (N + 1), .inl fr27)), (r30, .inl (γ.2.1, wl L (N + 1), .inl fr30)), (r33, .inl (γ.2.1, wl L (N + 1), .inl fr33)), (b3_2, .inl (γ.2.1, L, .inl f3_2))] _ := hP
  have hD : va_D Z [(a, .inr (3, [.ref r27, .ref r30, .ref b2_2, .ref b3_2, .int (nI N)])), (r27, .inl (γ.2.1, wl L (N + 1), .inl fr27)), (r30, .inl (γ.2.1, wl L (N + 1), .inl fr30)), (r33, .inl (γ.2.1, wl L (N + 1), .inl fr33)), (b3_2, .inl (γ.2.1, L, .inl f3_2))] := hD
  refine va_put (D := γ.1) (ci := 3) (v := .ref r33) (ty := .array .int) (C := R_Types) (T := T_Types) (N := 5) (Ts := bs_W0) hx hb hW in_Types t_Types t_Types_ok n_Types hown hC.1 hP hD hS 0 rfl rfl 2 (by decide) (hW _ qw_dd571233a8) (fun _ h9 => h9) rfl (by decide +kernel) rfl rfl (Nat.le_of_ble_eq_true rfl) dTypes_put_48 (fun H locs hP hD hS => ?_)
  have hP : va_P γ.1 vwCl [(a, .inr (3, [.ref r27, .ref r30, .ref r33, .ref b3_2, .int (nI N)])), (r27, .inl (γ.2.1, wl L (N + 1), .inl fr27)), (r30, .inl (γ.2.1, wl L (N + 1), .inl fr30)), (r33, .inl (γ.2.1, wl L (N + 1), .inl fr33)), (b3_2, .inl (γ.2.1, L, .inl f3_2))] _ := hP
  have hD : va_D Z [(a, .inr (3, [.ref r27, .ref r30, .ref r33, .ref b3_2, .int (nI N)])), (r27, .inl (γ.2.1, wl L (N + 1), .inl fr27)), (r30, .inl (γ.2.1, wl L (N + 1), .inl fr30)), (r33, .inl (γ.2.1, wl L (N + 1), .inl fr33)), (b3_2, .inl (γ.2.1, L, .inl f3_2))] := hD
  refine lv_aload_n hx hb dTypes_put_51 rfl (lv_at hl 0 rfl) ?_
  refine lv_aload_n hx hb dTypes_put_52 rfl (lv_at hl 0 rfl) ?_
  refine va_get (D := γ.1) (ci := 3) (v := .ref b3_2) (C := R_Types) (T := T_Types) (N := 5) (Ts := bs_W0) hx hb hW in_Types hown hC.1 hP 0 rfl rfl 3 (by decide) (hW _ qw_dded4610c2) (fun _ h9 => h9) rfl dTypes_put_53 ?_
  refine lv_aload_n hx hb dTypes_put_56 rfl (lv_at hl 0 rfl) ?_
  refine va_get (D := γ.1) (ci := 3) (v := .int (nI N)) (C := R_Types) (T := T_Types) (N := 5) (Ts := bs_W0) hx hb hW in_Types hown hC.1 hP 0 rfl rfl 4 (by decide) (hW _ qw_f9da65449d) (fun _ h9 => h9) rfl dTypes_put_57 ?_
  refine lv_topi (fun v34 ev34 => ?_)
  refine lv_iconst (v := 1) hx hb dTypes_put_60 (by decide) ?_
  refine lv_iadd hx hb dTypes_put_61 ?_
  refine lv_topi (fun v35 ev35 => ?_)
  have ev35 : v35 = nI (N + 1) := by rw [ev35, ev34]; exact nI_add (N) (1)
  obtain rfl : v35 = nI (N + 1) := ev35
  refine mu_Tr (rest := [.ref a]) S hC (fun q h => hA q (Nat.le_trans hS.1 h)) (fun q h => h) hS (c_withRoom l γ Z b3_2 L (N + 1) f3_2 _ (by omega) (by omega)) meTypeBook_withRoom (hC.2 _ qn_fe62be3d74 rfl) ⟨Nat.le_of_ble_eq_true rfl, Nat.le_of_ble_eq_true rfl⟩ ⟨rfl, hD.2 4 _ rfl, hP 4 _ rfl⟩ rfl hl.1 rfl (Nat.le_of_ble_eq_true rfl) dTypes_put_62 ⟨(by show _ ≤ 0 + wc L (N + 1) + wc L (N + 1) + wc L (N + 1) + wc L (N + 1); omega), (by show _ ≤ 0 + wm L (N + 1) + wm L (N + 1) + wm L (N + 1) + wm L (N + 1); omega)⟩ (fun r36 Hr36 locs hPO hS _ _ => ?_)
  obtain ⟨g1r36, g2r36, g3r36, g4r36, fr36, g5r36, g6r36⟩ := hPO
  obtain ⟨hP, hD⟩ := wr_join (i := 4) hP hD rfl g4r36 g5r36 g1r36 g2r36
  have hP : va_P γ.1 vwCl [(a, .inr (3, [.ref r27, .ref r30, .ref r33, .ref b3_2, .int (nI N)])), (r27, .inl (γ.2.1, wl L (N + 1), .inl fr27)), (r30, .inl (γ.2.1, wl L (N + 1), .inl fr30)), (r33, .inl (γ.2.1, wl L (N + 1), .inl fr33)), (r36, .inl (γ.2.1, wl L (N + 1), .inl fr36))] _ := hP
  have hD : va_D Z [(a, .inr (3, [.ref r27, .ref r30, .ref r33, .ref b3_2, .int (nI N)])), (r27, .inl (γ.2.1, wl L (N + 1), .inl fr27)), (r30, .inl (γ.2.1, wl L (N + 1), .inl fr30)), (r33, .inl (γ.2.1, wl L (N + 1), .inl fr33)), (r36, .inl (γ.2.1, wl L (N + 1), .inl fr36))] := hD
  refine va_put (D := γ.1) (ci := 3) (v := .ref r36) (ty := .array .int) (C := R_Types) (T := T_Types) (N := 5) (Ts := bs_W0) hx hb hW in_Types t_Types t_Types_ok n_Types hown hC.1 hP hD hS 0 rfl rfl 3 (by decide) (hW _ qw_dded4610c2) (fun _ h9 => h9) rfl (by decide +kernel) rfl rfl (Nat.le_of_ble_eq_true rfl) dTypes_put_65 (fun H locs hP hD hS => ?_)
  have hP : va_P γ.1 vwCl [(a, .inr (3, [.ref r27, .ref r30, .ref r33, .ref r36, .int (nI N)])), (r27, .inl (γ.2.1, wl L (N + 1), .inl fr27)), (r30, .inl (γ.2.1, wl L (N + 1), .inl fr30)), (r33, .inl (γ.2.1, wl L (N + 1), .inl fr33)), (r36, .inl (γ.2.1, wl L (N + 1), .inl fr36))] _ := hP
  have hD : va_D Z [(a, .inr (3, [.ref r27, .ref r30, .ref r33, .ref r36, .int (nI N)])), (r27, .inl (γ.2.1, wl L (N + 1), .inl fr27)), (r30, .inl (γ.2.1, wl L (N + 1), .inl fr30)), (r33, .inl (γ.2.1, wl L (N + 1), .inl fr33)), (r36, .inl (γ.2.1, wl L (N + 1), .inl fr36))] := hD
  refine lv_aload_n hx hb dTypes_put_68 rfl (lv_at hl 0 rfl) ?_
  refine va_get (D := γ.1) (ci := 3) (v := .ref r27) (C := R_Types) (T := T_Types) (N := 5) (Ts := bs_W0) hx hb hW in_Types hown hC.1 hP 0 rfl rfl 0 (by decide) (hW _ qw_9652573c2f) (fun _ h9 => h9) rfl dTypes_put_69 ?_
  refine lv_aload_n hx hb dTypes_put_72 rfl (lv_at hl 0 rfl) ?_
  refine va_get (D := γ.1) (ci := 3) (v := .int (nI N)) (C := R_Types) (T := T_Types) (N := 5) (Ts := bs_W0) hx hb hW in_Types hown hC.1 hP 0 rfl rfl 4 (by decide) (hW _ qw_f9da65449d) (fun _ h9 => h9) rfl dTypes_put_73 ?_
  refine lv_topi (fun v37 ev37 => ?_)
  refine lv_iload_n hx hb dTypes_put_76 rfl (lv_at hl 1 rfl) ?_
  refine va_iast hx hb hC.1 hP hD hS 1 0 rfl rfl (by rw [ev37]; exact in_sz (by omega) (by omega)) dTypes_put_77 (fun H locs hP hD hS => ?_)
  obtain ⟨u38, eu38⟩ : ∃ z : Nat → Int32, z = upd fr27 (v37).toNatClampNeg x1 := ⟨_, rfl⟩
  rw [← eu38] at hP hD
  have hP : va_P γ.1 vwCl [(a, .inr (3, [.ref r27, .ref r30, .ref r33, .ref r36, .int (nI N)])), (r27, .inl (γ.2.1, wl L (N + 1), .inl u38)), (r30, .inl (γ.2.1, wl L (N + 1), .inl fr30)), (r33, .inl (γ.2.1, wl L (N + 1), .inl fr33)), (r36, .inl (γ.2.1, wl L (N + 1), .inl fr36))] _ := hP
  have hD : va_D Z [(a, .inr (3, [.ref r27, .ref r30, .ref r33, .ref r36, .int (nI N)])), (r27, .inl (γ.2.1, wl L (N + 1), .inl u38)), (r30, .inl (γ.2.1, wl L (N + 1), .inl fr30)), (r33, .inl (γ.2.1, wl L (N + 1), .inl fr33)), (r36, .inl (γ.2.1, wl L (N + 1), .inl fr36))] := hD
  refine lv_aload_n hx hb dTypes_put_78 rfl (lv_at hl 0 rfl) ?_
  refine va_get (D := γ.1) (ci := 3) (v := .ref r30) (C := R_Types) (T := T_Types) (N := 5) (Ts := bs_W0) hx hb hW in_Types hown hC.1 hP 0 rfl rfl 1 (by decide) (hW _ qw_3e3b315a67) (fun _ h9 => h9) rfl dTypes_put_79 ?_
  refine lv_aload_n hx hb dTypes_put_82 rfl (lv_at hl 0 rfl) ?_
  refine va_get (D := γ.1) (ci := 3) (v := .int (nI N)) (C := R_Types) (T := T_Types) (N := 5) (Ts := bs_W0) hx hb hW in_Types hown hC.1 hP 0 rfl rfl 4 (by decide) (hW _ qw_f9da65449d) (fun _ h9 => h9) rfl dTypes_put_83 ?_
  refine lv_topi (fun v39 ev39 => ?_)
  refine lv_iload_n hx hb dTypes_put_86 rfl (lv_at hl 2 rfl) ?_
  refine va_iast hx hb hC.1 hP hD hS 2 0 rfl rfl (by rw [ev39]; exact in_sz (by omega) (by omega)) dTypes_put_87 (fun H locs hP hD hS => ?_)
  obtain ⟨u40, eu40⟩ : ∃ z : Nat → Int32, z = upd fr30 (v39).toNatClampNeg x2 := ⟨_, rfl⟩
  rw [← eu40] at hP hD
  have hP : va_P γ.1 vwCl [(a, .inr (3, [.ref r27, .ref r30, .ref r33, .ref r36, .int (nI N)])), (r27, .inl (γ.2.1, wl L (N + 1), .inl u38)), (r30, .inl (γ.2.1, wl L (N + 1), .inl u40)), (r33, .inl (γ.2.1, wl L (N + 1), .inl fr33)), (r36, .inl (γ.2.1, wl L (N + 1), .inl fr36))] _ := hP
  have hD : va_D Z [(a, .inr (3, [.ref r27, .ref r30, .ref r33, .ref r36, .int (nI N)])), (r27, .inl (γ.2.1, wl L (N + 1), .inl u38)), (r30, .inl (γ.2.1, wl L (N + 1), .inl u40)), (r33, .inl (γ.2.1, wl L (N + 1), .inl fr33)), (r36, .inl (γ.2.1, wl L (N + 1), .inl fr36))] := hD
  refine lv_aload_n hx hb dTypes_put_88 rfl (lv_at hl 0 rfl) ?_
  refine va_get (D := γ.1) (ci := 3) (v := .ref r33) (C := R_Types) (T := T_Types) (N := 5) (Ts := bs_W0) hx hb hW in_Types hown hC.1 hP 0 rfl rfl 2 (by decide) (hW _ qw_dd571233a8) (fun _ h9 => h9) rfl dTypes_put_89 ?_
  refine lv_aload_n hx hb dTypes_put_92 rfl (lv_at hl 0 rfl) ?_
  refine va_get (D := γ.1) (ci := 3) (v := .int (nI N)) (C := R_Types) (T := T_Types) (N := 5) (Ts := bs_W0) hx hb hW in_Types hown hC.1 hP 0 rfl rfl 4 (by decide) (hW _ qw_f9da65449d) (fun _ h9 => h9) rfl dTypes_put_93 ?_
  refine lv_topi (fun v41 ev41 => ?_)
  refine lv_iload_n hx hb dTypes_put_96 rfl (lv_at hl 3 rfl) ?_
  refine va_iast hx hb hC.1 hP hD hS 3 0 rfl rfl (by rw [ev41]; exact in_sz (by omega) (by omega)) dTypes_put_97 (fun H locs hP hD hS => ?_)
  obtain ⟨u42, eu42⟩ : ∃ z : Nat → Int32, z = upd fr33 (v41).toNatClampNeg x3 := ⟨_, rfl⟩
  rw [← eu42] at hP hD
  have hP : va_P γ.1 vwCl [(a, .inr (3, [.ref r27, .ref r30, .ref r33, .ref r36, .int (nI N)])), (r27, .inl (γ.2.1, wl L (N + 1), .inl u38)), (r30, .inl (γ.2.1, wl L (N + 1), .inl u40)), (r33, .inl (γ.2.1, wl L (N + 1), .inl u42)), (r36, .inl (γ.2.1, wl L (N + 1), .inl fr36))] _ := hP
  have hD : va_D Z [(a, .inr (3, [.ref r27, .ref r30, .ref r33, .ref r36, .int (nI N)])), (r27, .inl (γ.2.1, wl L (N + 1), .inl u38)), (r30, .inl (γ.2.1, wl L (N + 1), .inl u40)), (r33, .inl (γ.2.1, wl L (N + 1), .inl u42)), (r36, .inl (γ.2.1, wl L (N + 1), .inl fr36))] := hD
  refine lv_aload_n hx hb dTypes_put_98 rfl (lv_at hl 0 rfl) ?_
  refine va_get (D := γ.1) (ci := 3) (v := .ref r36) (C := R_Types) (T := T_Types) (N := 5) (Ts := bs_W0) hx hb hW in_Types hown hC.1 hP 0 rfl rfl 3 (by decide) (hW _ qw_dded4610c2) (fun _ h9 => h9) rfl dTypes_put_99 ?_
  refine lv_aload_n hx hb dTypes_put_102 rfl (lv_at hl 0 rfl) ?_
  refine va_get (D := γ.1) (ci := 3) (v := .int (nI N)) (C := R_Types) (T := T_Types) (N := 5) (Ts := bs_W0) hx hb hW in_Types hown hC.1 hP 0 rfl rfl 4 (by decide) (hW _ qw_f9da65449d) (fun _ h9 => h9) rfl dTypes_put_103 ?_
  refine lv_topi (fun v43 ev43 => ?_)
  refine lv_iload hx hb dTypes_put_106 (lv_at hl 4 rfl) ?_
  refine va_iast hx hb hC.1 hP hD hS 4 0 rfl rfl (by rw [ev43]; exact in_sz (by omega) (by omega)) dTypes_put_108 (fun H locs hP hD hS => ?_)
  obtain ⟨u44, eu44⟩ : ∃ z : Nat → Int32, z = upd fr36 (v43).toNatClampNeg x4 := ⟨_, rfl⟩
  rw [← eu44] at hP hD
  have hP : va_P γ.1 vwCl [(a, .inr (3, [.ref r27, .ref r30, .ref r33, .ref r36, .int (nI N)])), (r27, .inl (γ.2.1, wl L (N + 1), .inl u38)), (r30, .inl (γ.2.1, wl L (N + 1), .inl u40)), (r33, .inl (γ.2.1, wl L (N + 1), .inl u42)), (r36, .inl (γ.2.1, wl L (N + 1), .inl u44))] _ := hP
  have hD : va_D Z [(a, .inr (3, [.ref r27, .ref r30, .ref r33, .ref r36, .int (nI N)])), (r27, .inl (γ.2.1, wl L (N + 1), .inl u38)), (r30, .inl (γ.2.1, wl L (N + 1), .inl u40)), (r33, .inl (γ.2.1, wl L (N + 1), .inl u42)), (r36, .inl (γ.2.1, wl L (N + 1), .inl u44))] := hD
  refine lv_aload_n hx hb dTypes_put_109 rfl (lv_at hl 0 rfl) ?_
  refine lv_dup hx hb dTypes_put_110 rfl ?_
  refine va_get (D := γ.1) (ci := 3) (v := .int (nI N)) (C := R_Types) (T := T_Types) (N := 5) (Ts := bs_W0) hx hb hW in_Types hown hC.1 hP 0 rfl rfl 4 (by decide) (hW _ qw_f9da65449d) (fun _ h9 => h9) rfl dTypes_put_111 ?_
  refine lv_topi (fun v45 ev45 => ?_)
  refine lv_iconst (v := 1) hx hb dTypes_put_114 (by decide) ?_
  refine lv_iadd hx hb dTypes_put_115 ?_
  refine lv_topi (fun v46 ev46 => ?_)
  have ev46 : v46 = nI (N + 1) := by rw [ev46, ev45]; exact nI_add (N) (1)
  obtain rfl : v46 = nI (N + 1) := ev46
  refine va_put (D := γ.1) (ci := 3) (v := .int (nI (N + 1))) (ty := .int) (C := R_Types) (T := T_Types) (N := 5) (Ts := bs_W0) hx hb hW in_Types t_Types t_Types_ok n_Types hown hC.1 hP hD hS 0 rfl rfl 4 (by decide) (hW _ qw_f9da65449d) (fun _ h9 => h9) rfl (by decide +kernel) rfl rfl (Nat.le_of_ble_eq_true rfl) dTypes_put_116 (fun H locs hP hD hS => ?_)
  have hP : va_P γ.1 vwCl [(a, .inr (3, [.ref r27, .ref r30, .ref r33, .ref r36, .int (nI (N + 1))])), (r27, .inl (γ.2.1, wl L (N + 1), .inl u38)), (r30, .inl (γ.2.1, wl L (N + 1), .inl u40)), (r33, .inl (γ.2.1, wl L (N + 1), .inl u42)), (r36, .inl (γ.2.1, wl L (N + 1), .inl u44))] _ := hP
  have hD : va_D Z [(a, .inr (3, [.ref r27, .ref r30, .ref r33, .ref r36, .int (nI (N + 1))])), (r27, .inl (γ.2.1, wl L (N + 1), .inl u38)), (r30, .inl (γ.2.1, wl L (N + 1), .inl u40)), (r33, .inl (γ.2.1, wl L (N + 1), .inl u42)), (r36, .inl (γ.2.1, wl L (N + 1), .inl u44))] := hD
  refine lv_aload_n hx hb dTypes_put_119 rfl (lv_at hl 0 rfl) ?_
  refine va_get (D := γ.1) (ci := 3) (v := .int (nI (N + 1))) (C := R_Types) (T := T_Types) (N := 5) (Ts := bs_W0) hx hb hW in_Types hown hC.1 hP 0 rfl rfl 4 (by decide) (hW _ qw_f9da65449d) (fun _ h9 => h9) rfl dTypes_put_120 ?_
  refine lv_topi (fun v47 ev47 => ?_)
  refine lv_iconst (v := 1) hx hb dTypes_put_123 (by decide) ?_
  refine lv_isub hx hb dTypes_put_124 ?_
  refine lv_topi (fun v48 ev48 => ?_)
  have ev48 : v48 = nI (N) := by rw [ev48, ev47]; exact nI_pred (N)
  have hI : cmp γ (fTypes γ a (N + 1) (wl L (N + 1))) Z _ := ⟨_, ⟨r27, r30, r33, r36, u38, u40, u42, u44, rfl, (by omega), (by omega), (by omega)⟩, hP, hD⟩
  have hQ := hE _ _ v48 125 ls hS ⟨ev48, hI⟩ dTypes_put_125
  refine W.cs (cells' := 0 + wc L (N + 1) + wc L (N + 1) + wc L (N + 1) + wc L (N + 1)) (slots' := 0 + wm L (N + 1) + wm L (N + 1) + wm L (N + 1) + wm L (N + 1)) (by omega) (by omega) ?_
  exact hQ
theorem qn_8953b9cb9f : (Cond.methodLinkNest R_Names 64 yTypeBook_withRoom "TypeBook") ∈ lw_tbl := in_tables_1_1 (List.mem_of_getElem? (i := 77) rfl)
set_option maxHeartbeats 4000000 in
set_option maxRecDepth 100000 in
theorem c_Names_put (l : Launch) (γ : gE) (Z : Nat → Prop) (a N sc L : Nat) (x1 : Int32) (x2 : Int32) (x3 : Int32) (x4 : Int32) (hN : N ≤ 4000) : MU l yNames_put bNames_put 6 (none) 3 103 (0 + wc L (N + 1) + wc L (N + 1) + wc L (N + 1) + wc L (N + 1) + wc L (N + 1)) (0 + wm L (N + 1) + wm L (N + 1) + wm L (N + 1) + wm L (N + 1) + wm L (N + 1)) [.ref a, .int x1, .int x2, .int x3, .int x4] γ Z (cmp γ (fNames γ a N sc L) Z) (mQv (fun H => cmp γ (fNames γ a (N + 1) sc (wl L (N + 1))) Z H) Z) := by
  refine mu_openV (by decide) (Nat.le_of_ble_eq_true rfl) ?_
  intro p e s m args below meth c ls Q S hnm hC hA hI hE hl
  obtain ⟨hx, hb, hml, hown, hW⟩ := id S
  have hS : va_S Z s.heap s.heap [] := va_S.rf
  have hl : lv_has ls 6 [(0, .ref a), (1, .int x1), (2, .int x2), (3, .int x3), (4, .int x4)] := hl
  have hb9 : L ≤ 8192 ∧ N ≤ L := (by obtain ⟨w9, ⟨_, _, _, _, _, _, _, _, _, _, _, _, _, _, _, h1, h2, _⟩, _, _⟩ := id hI; exact ⟨h2, h1⟩)
  have hwl := wl_ok (n := L) (N := N + 1) (by omega) (by omega)
  refine lv_aload_n hx hb dNames_put_0 rfl (lv_at hl 0 rfl) ?_
  refine lv_aload_n hx hb dNames_put_1 rfl (lv_at hl 0 rfl) ?_
  obtain ⟨ws_2, ⟨b0_2, b1_2, b2_2, b3_2, b4_2, b5_2, b6_2, f0_2, f1_2, f2_2, f3_2, f4_2, f5_2, f6_2, rfl, h1_2, h2_2, h3_2, h4_2, h5_2, h6_2⟩, hP, hD⟩ := id hI
  have hP : va_P γ.1 vwCl [(a, .inr (2, [.ref b0_2, .ref b1_2, .ref b2_2, .ref b3_2, .ref b4_2, .ref b5_2, .ref b6_2, .int (nI N), .int (nI sc)])), (b0_2, .inl (γ.2.1, L, .inl f0_2)), (b1_2, .inl (γ.2.1, L, .inl f1_2)), (b2_2, .inl (γ.2.1, L, .inl f2_2)), (b3_2, .inl (γ.2.1, L, .inl f3_2)), (b4_2, .inl (γ.2.1, L, .inl f4_2)), (b5_2, .inl (γ.2.1, 256, .inl f5_2)), (b6_2, .inl (γ.2.1, 32, .inl f6_2))] _ := hP
  have hD : va_D Z [(a, .inr (2, [.ref b0_2, .ref b1_2, .ref b2_2, .ref b3_2, .ref b4_2, .ref b5_2, .ref b6_2, .int (nI N), .int (nI sc)])), (b0_2, .inl (γ.2.1, L, .inl f0_2)), (b1_2, .inl (γ.2.1, L, .inl f1_2)), (b2_2, .inl (γ.2.1, L, .inl f2_2)), (b3_2, .inl (γ.2.1, L, .inl f3_2)), (b4_2, .inl (γ.2.1, L, .inl f4_2)), (b5_2, .inl (γ.2.1, 256, .inl f5_2)), (b6_2, .inl (γ.2.1, 32, .inl f6_2))] := hD
  refine va_get (D := γ.1) (ci := 2) (v := .ref b0_2) (C := R_Names) (T := T_Names) (N := 9) (Ts := bs_W0) hx hb hW in_Names hown hC.1 hP 0 rfl rfl 0 (by decide) (hW _ qw_a8d4a716ae) (fun _ h9 => h9) rfl dNames_put_2 ?_
  refine lv_aload_n hx hb dNames_put_5 rfl (lv_at hl 0 rfl) ?_
  refine va_get (D := γ.1) (ci := 2) (v := .int (nI N)) (C := R_Names) (T := T_Names) (N := 9) (Ts := bs_W0) hx hb hW in_Names hown hC.1 hP 0 rfl rfl 7 (by decide) (hW _ qw_171adcdf9f) (fun _ h9 => h9) rfl dNames_put_6 ?_
  refine lv_topi (fun v32 ev32 => ?_)
  refine lv_iconst (v := 1) hx hb dNames_put_9 (by decide) ?_
  refine lv_iadd hx hb dNames_put_10 ?_
  refine lv_topi (fun v33 ev33 => ?_)
  have ev33 : v33 = nI (N + 1) := by rw [ev33, ev32]; exact nI_add (N) (1)
  obtain rfl : v33 = nI (N + 1) := ev33
  refine mu_Tr (rest := [.ref a]) S hC (fun q h => hA q (Nat.le_trans hS.1 h)) (fun q h => h) hS (c_withRoom l γ Z b0_2 L (N + 1) f0_2 _ (by omega) (by omega)) meTypeBook_withRoom (hC.2 _ qn_8953b9cb9f rfl) ⟨Nat.le_of_ble_eq_true rfl, Nat.le_of_ble_eq_true rfl⟩ ⟨rfl, hD.2 1 _ rfl, hP 1 _ rfl⟩ rfl hl.1 rfl (Nat.le_of_ble_eq_true rfl) dNames_put_11 ⟨(by show _ ≤ 0 + wc L (N + 1) + wc L (N + 1) + wc L (N + 1) + wc L (N + 1) + wc L (N + 1); omega), (by show _ ≤ 0 + wm L (N + 1) + wm L (N + 1) + wm L (N + 1) + wm L (N + 1) + wm L (N + 1); omega)⟩ (fun r34 Hr34 locs hPO hS _ _ => ?_)
  obtain ⟨g1r34, g2r34, g3r34, g4r34, fr34, g5r34, g6r34⟩ := hPO
  obtain ⟨hP, hD⟩ := wr_join (i := 1) hP hD rfl g4r34 g5r34 g1r34 g2r34
  have hP : va_P γ.1 vwCl [(a, .inr (2, [.ref b0_2, .ref b1_2, .ref b2_2, .ref b3_2, .ref b4_2, .ref b5_2, .ref b6_2, .int (nI N), .int (nI sc)])), (r34, .inl (γ.2.1, wl L (N + 1), .inl fr34)), (b1_2, .inl (γ.2.1, L, .inl f1_2)), (b2_2, .inl (γ.2.1, L, .inl f2_2)), (b3_2, .inl (γ.2.1, L, .inl f3_2)), (b4_2, .inl (γ.2.1, L, .inl f4_2)), (b5_2, .inl (γ.2.1, 256, .inl f5_2)), (b6_2, .inl (γ.2.1, 32, .inl f6_2))] _ := hP
  have hD : va_D Z [(a, .inr (2, [.ref b0_2, .ref b1_2, .ref b2_2, .ref b3_2, .ref b4_2, .ref b5_2, .ref b6_2, .int (nI N), .int (nI sc)])), (r34, .inl (γ.2.1, wl L (N + 1), .inl fr34)), (b1_2, .inl (γ.2.1, L, .inl f1_2)), (b2_2, .inl (γ.2.1, L, .inl f2_2)), (b3_2, .inl (γ.2.1, L, .inl f3_2)), (b4_2, .inl (γ.2.1, L, .inl f4_2)), (b5_2, .inl (γ.2.1, 256, .inl f5_2)), (b6_2, .inl (γ.2.1, 32, .inl f6_2))] := hD
  refine va_put (D := γ.1) (ci := 2) (v := .ref r34) (ty := .array .int) (C := R_Names) (T := T_Names) (N := 9) (Ts := bs_W0) hx hb hW in_Names t_Names t_Names_ok n_Names hown hC.1 hP hD hS 0 rfl rfl 0 (by decide) (hW _ qw_a8d4a716ae) (fun _ h9 => h9) rfl (by decide +kernel) rfl rfl (Nat.le_of_ble_eq_true rfl) dNames_put_14 (fun H locs hP hD hS => ?_)
  have hP : va_P γ.1 vwCl [(a, .inr (2, [.ref r34, .ref b1_2, .ref b2_2, .ref b3_2, .ref b4_2, .ref b5_2, .ref b6_2, .int (nI N), .int (nI sc)])), (r34, .inl (γ.2.1, wl L (N + 1), .inl fr34)), (b1_2, .inl (γ.2.1, L, .inl f1_2)), (b2_2, .inl (γ.2.1, L, .inl f2_2)), (b3_2, .inl (γ.2.1, L, .inl f3_2)), (b4_2, .inl (γ.2.1, L, .inl f4_2)), (b5_2, .inl (γ.2.1, 256, .inl f5_2)), (b6_2, .inl (γ.2.1, 32, .inl f6_2))] _ := hP
  have hD : va_D Z [(a, .inr (2, [.ref r34, .ref b1_2, .ref b2_2, .ref b3_2, .ref b4_2, .ref b5_2, .ref b6_2, .int (nI N), .int (nI sc)])), (r34, .inl (γ.2.1, wl L (N + 1), .inl fr34)), (b1_2, .inl (γ.2.1, L, .inl f1_2)), (b2_2, .inl (γ.2.1, L, .inl f2_2)), (b3_2, .inl (γ.2.1, L, .inl f3_2)), (b4_2, .inl (γ.2.1, L, .inl f4_2)), (b5_2, .inl (γ.2.1, 256, .inl f5_2)), (b6_2, .inl (γ.2.1, 32, .inl f6_2))] := hD
  refine lv_aload_n hx hb dNames_put_17 rfl (lv_at hl 0 rfl) ?_
  refine lv_aload_n hx hb dNames_put_18 rfl (lv_at hl 0 rfl) ?_
  refine va_get (D := γ.1) (ci := 2) (v := .ref b1_2) (C := R_Names) (T := T_Names) (N := 9) (Ts := bs_W0) hx hb hW in_Names hown hC.1 hP 0 rfl rfl 1 (by decide) (hW _ qw_5903ecb25d) (fun _ h9 => h9) rfl dNames_put_19 ?_
  refine lv_aload_n hx hb dNames_put_22 rfl (lv_at hl 0 rfl) ?_
  refine va_get (D := γ.1) (ci := 2) (v := .int (nI N)) (C := R_Names) (T := T_Names) (N := 9) (Ts := bs_W0) hx hb hW in_Names hown hC.1 hP 0 rfl rfl 7 (by decide) (hW _ qw_171adcdf9f) (fun _ h9 => h9) rfl dNames_put_23 ?_
  refine lv_topi (fun v35 ev35 => ?_)
  refine lv_iconst (v := 1) hx hb dNames_put_26 (by decide) ?_
  refine lv_iadd hx hb dNames_put_27 ?_
  refine lv_topi (fun v36 ev36 => ?_)
  have ev36 : v36 = nI (N + 1) := by rw [ev36, ev35]; exact nI_add (N) (1)
  obtain rfl : v36 = nI (N + 1) := ev36
  refine mu_Tr (rest := [.ref a]) S hC (fun q h => hA q (Nat.le_trans hS.1 h)) (fun q h => h) hS (c_withRoom l γ Z b1_2 L (N + 1) f1_2 _ (by omega) (by omega)) meTypeBook_withRoom (hC.2 _ qn_8953b9cb9f rfl) ⟨Nat.le_of_ble_eq_true rfl, Nat.le_of_ble_eq_true rfl⟩ ⟨rfl, hD.2 2 _ rfl, hP 2 _ rfl⟩ rfl hl.1 rfl (Nat.le_of_ble_eq_true rfl) dNames_put_28 ⟨(by show _ ≤ 0 + wc L (N + 1) + wc L (N + 1) + wc L (N + 1) + wc L (N + 1) + wc L (N + 1); omega), (by show _ ≤ 0 + wm L (N + 1) + wm L (N + 1) + wm L (N + 1) + wm L (N + 1) + wm L (N + 1); omega)⟩ (fun r37 Hr37 locs hPO hS _ _ => ?_)
  obtain ⟨g1r37, g2r37, g3r37, g4r37, fr37, g5r37, g6r37⟩ := hPO
  obtain ⟨hP, hD⟩ := wr_join (i := 2) hP hD rfl g4r37 g5r37 g1r37 g2r37
  have hP : va_P γ.1 vwCl [(a, .inr (2, [.ref r34, .ref b1_2, .ref b2_2, .ref b3_2, .ref b4_2, .ref b5_2, .ref b6_2, .int (nI N), .int (nI sc)])), (r34, .inl (γ.2.1, wl L (N + 1), .inl fr34)), (r37, .inl (γ.2.1, wl L (N + 1), .inl fr37)), (b2_2, .inl (γ.2.1, L, .inl f2_2)), (b3_2, .inl (γ.2.1, L, .inl f3_2)), (b4_2, .inl (γ.2.1, L, .inl f4_2)), (b5_2, .inl (γ.2.1, 256, .inl f5_2)), (b6_2, .inl (γ.2.1, 32, .inl f6_2))] _ := hP
  have hD : va_D Z [(a, .inr (2, [.ref r34, .ref b1_2, .ref b2_2, .ref b3_2, .ref b4_2, .ref b5_2, .ref b6_2, .int (nI N), .int (nI sc)])), (r34, .inl (γ.2.1, wl L (N + 1), .inl fr34)), (r37, .inl (γ.2.1, wl L (N + 1), .inl fr37)), (b2_2, .inl (γ.2.1, L, .inl f2_2)), (b3_2, .inl (γ.2.1, L, .inl f3_2)), (b4_2, .inl (γ.2.1, L, .inl f4_2)), (b5_2, .inl (γ.2.1, 256, .inl f5_2)), (b6_2, .inl (γ.2.1, 32, .inl f6_2))] := hD
  refine va_put (D := γ.1) (ci := 2) (v := .ref r37) (ty := .array .int) (C := R_Names) (T := T_Names) (N := 9) (Ts := bs_W0) hx hb hW in_Names t_Names t_Names_ok n_Names hown hC.1 hP hD hS 0 rfl rfl 1 (by decide) (hW _ qw_5903ecb25d) (fun _ h9 => h9) rfl (by decide +kernel) rfl rfl (Nat.le_of_ble_eq_true rfl) dNames_put_31 (fun H locs hP hD hS => ?_)
  have hP : va_P γ.1 vwCl [(a, .inr (2, [.ref r34, .ref r37, .ref b2_2, .ref b3_2, .ref b4_2, .ref b5_2, .ref b6_2, .int (nI N), .int (nI sc)])), (r34, .inl (γ.2.1, wl L (N + 1), .inl fr34)), (r37, .inl (γ.2.1, wl L (N + 1), .inl fr37)), (b2_2, .inl (γ.2.1, L, .inl f2_2)), (b3_2, .inl (γ.2.1, L, .inl f3_2)), (b4_2, .inl (γ.2.1, L, .inl f4_2)), (b5_2, .inl (γ.2.1, 256, .inl f5_2)), (b6_2, .inl (γ.2.1, 32, .inl f6_2))] _ := hP
  have hD : va_D Z [(a, .inr (2, [.ref r34, .ref r37, .ref b2_2, .ref b3_2, .ref b4_2, .ref b5_2, .ref b6_2, .int (nI N), .int (nI sc)])), (r34, .inl (γ.2.1, wl L (N + 1), .inl fr34)), (r37, .inl (γ.2.1, wl L (N + 1), .inl fr37)), (b2_2, .inl (γ.2.1, L, .inl f2_2)), (b3_2, .inl (γ.2.1, L, .inl f3_2)), (b4_2, .inl (γ.2.1, L, .inl f4_2)), (b5_2, .inl (γ.2.1, 256, .inl f5_2)), (b6_2, .inl (γ.2.1, 32, .inl f6_2))] := hD
  refine lv_aload_n hx hb dNames_put_34 rfl (lv_at hl 0 rfl) ?_
  refine lv_aload_n hx hb dNames_put_35 rfl (lv_at hl 0 rfl) ?_
  refine va_get (D := γ.1) (ci := 2) (v := .ref b2_2) (C := R_Names) (T := T_Names) (N := 9) (Ts := bs_W0) hx hb hW in_Names hown hC.1 hP 0 rfl rfl 2 (by decide) (hW _ qw_ee1ba38ad0) (fun _ h9 => h9) rfl dNames_put_36 ?_
  refine lv_aload_n hx hb dNames_put_39 rfl (lv_at hl 0 rfl) ?_
  refine va_get (D := γ.1) (ci := 2) (v := .int (nI N)) (C := R_Names) (T := T_Names) (N := 9) (Ts := bs_W0) hx hb hW in_Names hown hC.1 hP 0 rfl rfl 7 (by decide) (hW _ qw_171adcdf9f) (fun _ h9 => h9) rfl dNames_put_40 ?_
  refine lv_topi (fun v38 ev38 => ?_)
  refine lv_iconst (v := 1) hx hb dNames_put_43 (by decide) ?_
  refine lv_iadd hx hb dNames_put_44 ?_
  refine lv_topi (fun v39 ev39 => ?_)
  have ev39 : v39 = nI (N + 1) := by rw [ev39, ev38]; exact nI_add (N) (1)
  obtain rfl : v39 = nI (N + 1) := ev39
  refine mu_Tr (rest := [.ref a]) S hC (fun q h => hA q (Nat.le_trans hS.1 h)) (fun q h => h) hS (c_withRoom l γ Z b2_2 L (N + 1) f2_2 _ (by omega) (by omega)) meTypeBook_withRoom (hC.2 _ qn_8953b9cb9f rfl) ⟨Nat.le_of_ble_eq_true rfl, Nat.le_of_ble_eq_true rfl⟩ ⟨rfl, hD.2 3 _ rfl, hP 3 _ rfl⟩ rfl hl.1 rfl (Nat.le_of_ble_eq_true rfl) dNames_put_45 ⟨(by show _ ≤ 0 + wc L (N + 1) + wc L (N + 1) + wc L (N + 1) + wc L (N + 1) + wc L (N + 1); omega), (by show _ ≤ 0 + wm L (N + 1) + wm L (N + 1) + wm L (N + 1) + wm L (N + 1) + wm L (N + 1); omega)⟩ (fun r40 Hr40 locs hPO hS _ _ => ?_)
  obtain ⟨g1r40, g2r40, g3r40, g4r40, fr40, g5r40, g6r40⟩ := hPO
  obtain ⟨hP, hD⟩ := wr_join (i := 3) hP hD rfl g4r40 g5r40 g1r40 g2r40
  have hP : va_P γ.1 vwCl [(a, .inr (2, [.ref r34, .ref r37, .ref b2_2, .ref b3_2, .ref b4_2, .ref b5_2, .ref b6_2, .int (nI N), .int (nI sc)])), (r34, .inl (γ.2.1, wl L (N + 1), .inl fr34)), (r37, .inl (γ.2.1, wl L (N + 1), .inl fr37)), (r40, .inl (γ.2.1, wl L (N + 1), .inl fr40)), (b3_2, .inl (γ.2.1, L, .inl f3_2)), (b4_2, .inl (γ.2.1, L, .inl f4_2)), (b5_2, .inl (γ.2.1, 256, .inl f5_2)), (b6_2, .inl (γ.2.1, 32, .inl f6_2))] _ := hP
  have hD : va_D Z [(a, .inr (2, [.ref r34, .ref r37, .ref b2_2, .ref b3_2, .ref b4_2, .ref b5_2, .ref b6_2, .int (nI N), .int (nI sc)])), (r34, .inl (γ.2.1, wl L (N + 1), .inl fr34)), (r37, .inl (γ.2.1, wl L (N + 1), .inl fr37)), (r40, .inl (γ.2.1, wl L (N + 1), .inl fr40)), (b3_2, .inl (γ.2.1, L, .inl f3_2)), (b4_2, .inl (γ.2.1, L, .inl f4_2)), (b5_2, .inl (γ.2.1, 256, .inl f5_2)), (b6_2, .inl (γ.2.1, 32, .inl f6_2))] := hD
  refine va_put (D := γ.1) (ci := 2) (v := .ref r40) (ty := .array .int) (C := R_Names) (T := T_Names) (N := 9) (Ts := bs_W0) hx hb hW in_Names t_Names t_Names_ok n_Names hown hC.1 hP hD hS 0 rfl rfl 2 (by decide) (hW _ qw_ee1ba38ad0) (fun _ h9 => h9) rfl (by decide +kernel) rfl rfl (Nat.le_of_ble_eq_true rfl) dNames_put_48 (fun H locs hP hD hS => ?_)
  have hP : va_P γ.1 vwCl [(a, .inr (2, [.ref r34, .ref r37, .ref r40, .ref b3_2, .ref b4_2, .ref b5_2, .ref b6_2, .int (nI N), .int (nI sc)])), (r34, .inl (γ.2.1, wl L (N + 1), .inl fr34)), (r37, .inl (γ.2.1, wl L (N + 1), .inl fr37)), (r40, .inl (γ.2.1, wl L (N + 1), .inl fr40)), (b3_2, .inl (γ.2.1, L, .inl f3_2)), (b4_2, .inl (γ.2.1, L, .inl f4_2)), (b5_2, .inl (γ.2.1, 256, .inl f5_2)), (b6_2, .inl (γ.2.1, 32, .inl f6_2))] _ := hP
  have hD : va_D Z [(a, .inr (2, [.ref r34, .ref r37, .ref r40, .ref b3_2, .ref b4_2, .ref b5_2, .ref b6_2, .int (nI N), .int (nI sc)])), (r34, .inl (γ.2.1, wl L (N + 1), .inl fr34)), (r37, .inl (γ.2.1, wl L (N + 1), .inl fr37)), (r40, .inl (γ.2.1, wl L (N + 1), .inl fr40)), (b3_2, .inl (γ.2.1, L, .inl f3_2)), (b4_2, .inl (γ.2.1, L, .inl f4_2)), (b5_2, .inl (γ.2.1, 256, .inl f5_2)), (b6_2, .inl (γ.2.1, 32, .inl f6_2))] := hD
  refine lv_aload_n hx hb dNames_put_51 rfl (lv_at hl 0 rfl) ?_
  refine lv_aload_n hx hb dNames_put_52 rfl (lv_at hl 0 rfl) ?_
  refine va_get (D := γ.1) (ci := 2) (v := .ref b3_2) (C := R_Names) (T := T_Names) (N := 9) (Ts := bs_W0) hx hb hW in_Names hown hC.1 hP 0 rfl rfl 3 (by decide) (hW _ qw_1a22e5f505) (fun _ h9 => h9) rfl dNames_put_53 ?_
  refine lv_aload_n hx hb dNames_put_56 rfl (lv_at hl 0 rfl) ?_
  refine va_get (D := γ.1) (ci := 2) (v := .int (nI N)) (C := R_Names) (T := T_Names) (N := 9) (Ts := bs_W0) hx hb hW in_Names hown hC.1 hP 0 rfl rfl 7 (by decide) (hW _ qw_171adcdf9f) (fun _ h9 => h9) rfl dNames_put_57 ?_
  refine lv_topi (fun v41 ev41 => ?_)
  refine lv_iconst (v := 1) hx hb dNames_put_60 (by decide) ?_
  refine lv_iadd hx hb dNames_put_61 ?_
  refine lv_topi (fun v42 ev42 => ?_)
  have ev42 : v42 = nI (N + 1) := by rw [ev42, ev41]; exact nI_add (N) (1)
  obtain rfl : v42 = nI (N + 1) := ev42
  refine mu_Tr (rest := [.ref a]) S hC (fun q h => hA q (Nat.le_trans hS.1 h)) (fun q h => h) hS (c_withRoom l γ Z b3_2 L (N + 1) f3_2 _ (by omega) (by omega)) meTypeBook_withRoom (hC.2 _ qn_8953b9cb9f rfl) ⟨Nat.le_of_ble_eq_true rfl, Nat.le_of_ble_eq_true rfl⟩ ⟨rfl, hD.2 4 _ rfl, hP 4 _ rfl⟩ rfl hl.1 rfl (Nat.le_of_ble_eq_true rfl) dNames_put_62 ⟨(by show _ ≤ 0 + wc L (N + 1) + wc L (N + 1) + wc L (N + 1) + wc L (N + 1) + wc L (N + 1); omega), (by show _ ≤ 0 + wm L (N + 1) + wm L (N + 1) + wm L (N + 1) + wm L (N + 1) + wm L (N + 1); omega)⟩ (fun r43 Hr43 locs hPO hS _ _ => ?_)
  obtain ⟨g1r43, g2r43, g3r43, g4r43, fr43, g5r43, g6r43⟩ := hPO
  obtain ⟨hP, hD⟩ := wr_join (i := 4) hP hD rfl g4r43 g5r43 g1r43 g2r43
  have hP : va_P γ.1 vwCl [(a, .inr (2, [.ref r34, .ref r37, .ref r40, .ref b3_2, .ref b4_2, .ref b5_2, .ref b6_2, .int (nI N), .int (nI sc)])), (r34, .inl (γ.2.1, wl L (N + 1), .inl fr34)), (r37, .inl (γ.2.1, wl L (N + 1), .inl fr37)), (r40, .inl (γ.2.1, wl L (N + 1), .inl fr40)), (r43, .inl (γ.2.1, wl L (N + 1), .inl fr43)), (b4_2, .inl (γ.2.1, L, .inl f4_2)), (b5_2, .inl (γ.2.1, 256, .inl f5_2)), (b6_2, .inl (γ.2.1, 32, .inl f6_2))] _ := hP
  have hD : va_D Z [(a, .inr (2, [.ref r34, .ref r37, .ref r40, .ref b3_2, .ref b4_2, .ref b5_2, .ref b6_2, .int (nI N), .int (nI sc)])), (r34, .inl (γ.2.1, wl L (N + 1), .inl fr34)), (r37, .inl (γ.2.1, wl L (N + 1), .inl fr37)), (r40, .inl (γ.2.1, wl L (N + 1), .inl fr40)), (r43, .inl (γ.2.1, wl L (N + 1), .inl fr43)), (b4_2, .inl (γ.2.1, L, .inl f4_2)), (b5_2, .inl (γ.2.1, 256, .inl f5_2)), (b6_2, .inl (γ.2.1, 32, .inl f6_2))] := hD
  refine va_put (D := γ.1) (ci := 2) (v := .ref r43) (ty := .array .int) (C := R_Names) (T := T_Names) (N := 9) (Ts := bs_W0) hx hb hW in_Names t_Names t_Names_ok n_Names hown hC.1 hP hD hS 0 rfl rfl 3 (by decide) (hW _ qw_1a22e5f505) (fun _ h9 => h9) rfl (by decide +kernel) rfl rfl (Nat.le_of_ble_eq_true rfl) dNames_put_65 (fun H locs hP hD hS => ?_)
  have hP : va_P γ.1 vwCl [(a, .inr (2, [.ref r34, .ref r37, .ref r40, .ref r43, .ref b4_2, .ref b5_2, .ref b6_2, .int (nI N), .int (nI sc)])), (r34, .inl (γ.2.1, wl L (N + 1), .inl fr34)), (r37, .inl (γ.2.1, wl L (N + 1), .inl fr37)), (r40, .inl (γ.2.1, wl L (N + 1), .inl fr40)), (r43, .inl (γ.2.1, wl L (N + 1), .inl fr43)), (b4_2, .inl (γ.2.1, L, .inl f4_2)), (b5_2, .inl (γ.2.1, 256, .inl f5_2)), (b6_2, .inl (γ.2.1, 32, .inl f6_2))] _ := hP
  have hD : va_D Z [(a, .inr (2, [.ref r34, .ref r37, .ref r40, .ref r43, .ref b4_2, .ref b5_2, .ref b6_2, .int (nI N), .int (nI sc)])), (r34, .inl (γ.2.1, wl L (N + 1), .inl fr34)), (r37, .inl (γ.2.1, wl L (N + 1), .inl fr37)), (r40, .inl (γ.2.1, wl L (N + 1), .inl fr40)), (r43, .inl (γ.2.1, wl L (N + 1), .inl fr43)), (b4_2, .inl (γ.2.1, L, .inl f4_2)), (b5_2, .inl (γ.2.1, 256, .inl f5_2)), (b6_2, .inl (γ.2.1, 32, .inl f6_2))] := hD
  refine lv_aload_n hx hb dNames_put_68 rfl (lv_at hl 0 rfl) ?_
  refine lv_aload_n hx hb dNames_put_69 rfl (lv_at hl 0 rfl) ?_
  refine va_get (D := γ.1) (ci := 2) (v := .ref b4_2) (C := R_Names) (T := T_Names) (N := 9) (Ts := bs_W0) hx hb hW in_Names hown hC.1 hP 0 rfl rfl 4 (by decide) (hW _ qw_ddfb92ec41) (fun _ h9 => h9) rfl dNames_put_70 ?_
  refine lv_aload_n hx hb dNames_put_73 rfl (lv_at hl 0 rfl) ?_
  refine va_get (D := γ.1) (ci := 2) (v := .int (nI N)) (C := R_Names) (T := T_Names) (N := 9) (Ts := bs_W0) hx hb hW in_Names hown hC.1 hP 0 rfl rfl 7 (by decide) (hW _ qw_171adcdf9f) (fun _ h9 => h9) rfl dNames_put_74 ?_
  refine lv_topi (fun v44 ev44 => ?_)
  refine lv_iconst (v := 1) hx hb dNames_put_77 (by decide) ?_
  refine lv_iadd hx hb dNames_put_78 ?_
  refine lv_topi (fun v45 ev45 => ?_)
  have ev45 : v45 = nI (N + 1) := by rw [ev45, ev44]; exact nI_add (N) (1)
  obtain rfl : v45 = nI (N + 1) := ev45
  refine mu_Tr (rest := [.ref a]) S hC (fun q h => hA q (Nat.le_trans hS.1 h)) (fun q h => h) hS (c_withRoom l γ Z b4_2 L (N + 1) f4_2 _ (by omega) (by omega)) meTypeBook_withRoom (hC.2 _ qn_8953b9cb9f rfl) ⟨Nat.le_of_ble_eq_true rfl, Nat.le_of_ble_eq_true rfl⟩ ⟨rfl, hD.2 5 _ rfl, hP 5 _ rfl⟩ rfl hl.1 rfl (Nat.le_of_ble_eq_true rfl) dNames_put_79 ⟨(by show _ ≤ 0 + wc L (N + 1) + wc L (N + 1) + wc L (N + 1) + wc L (N + 1) + wc L (N + 1); omega), (by show _ ≤ 0 + wm L (N + 1) + wm L (N + 1) + wm L (N + 1) + wm L (N + 1) + wm L (N + 1); omega)⟩ (fun r46 Hr46 locs hPO hS _ _ => ?_)
  obtain ⟨g1r46, g2r46, g3r46, g4r46, fr46, g5r46, g6r46⟩ := hPO
  obtain ⟨hP, hD⟩ := wr_join (i := 5) hP hD rfl g4r46 g5r46 g1r46 g2r46
  have hP : va_P γ.1 vwCl [(a, .inr (2, [.ref r34, .ref r37, .ref r40, .ref r43, .ref b4_2, .ref b5_2, .ref b6_2, .int (nI N), .int (nI sc)])), (r34, .inl (γ.2.1, wl L (N + 1), .inl fr34)), (r37, .inl (γ.2.1, wl L (N + 1), .inl fr37)), (r40, .inl (γ.2.1, wl L (N + 1), .inl fr40)), (r43, .inl (γ.2.1, wl L (N + 1), .inl fr43)), (r46, .inl (γ.2.1, wl L (N + 1), .inl fr46)), (b5_2, .inl (γ.2.1, 256, .inl f5_2)), (b6_2, .inl (γ.2.1, 32, .inl f6_2))] _ := hP
  have hD : va_D Z [(a, .inr (2, [.ref r34, .ref r37, .ref r40, .ref r43, .ref b4_2, .ref b5_2, .ref b6_2, .int (nI N), .int (nI sc)])), (r34, .inl (γ.2.1, wl L (N + 1), .inl fr34)), (r37, .inl (γ.2.1, wl L (N + 1), .inl fr37)), (r40, .inl (γ.2.1, wl L (N + 1), .inl fr40)), (r43, .inl (γ.2.1, wl L (N + 1), .inl fr43)), (r46, .inl (γ.2.1, wl L (N + 1), .inl fr46)), (b5_2, .inl (γ.2.1, 256, .inl f5_2)), (b6_2, .inl (γ.2.1, 32, .inl f6_2))] := hD
  refine va_put (D := γ.1) (ci := 2) (v := .ref r46) (ty := .array .int) (C := R_Names) (T := T_Names) (N := 9) (Ts := bs_W0) hx hb hW in_Names t_Names t_Names_ok n_Names hown hC.1 hP hD hS 0 rfl rfl 4 (by decide) (hW _ qw_ddfb92ec41) (fun _ h9 => h9) rfl (by decide +kernel) rfl rfl (Nat.le_of_ble_eq_true rfl) dNames_put_82 (fun H locs hP hD hS => ?_)
  have hP : va_P γ.1 vwCl [(a, .inr (2, [.ref r34, .ref r37, .ref r40, .ref r43, .ref r46, .ref b5_2, .ref b6_2, .int (nI N), .int (nI sc)])), (r34, .inl (γ.2.1, wl L (N + 1), .inl fr34)), (r37, .inl (γ.2.1, wl L (N + 1), .inl fr37)), (r40, .inl (γ.2.1, wl L (N + 1), .inl fr40)), (r43, .inl (γ.2.1, wl L (N + 1), .inl fr43)), (r46, .inl (γ.2.1, wl L (N + 1), .inl fr46)), (b5_2, .inl (γ.2.1, 256, .inl f5_2)), (b6_2, .inl (γ.2.1, 32, .inl f6_2))] _ := hP
  have hD : va_D Z [(a, .inr (2, [.ref r34, .ref r37, .ref r40, .ref r43, .ref r46, .ref b5_2, .ref b6_2, .int (nI N), .int (nI sc)])), (r34, .inl (γ.2.1, wl L (N + 1), .inl fr34)), (r37, .inl (γ.2.1, wl L (N + 1), .inl fr37)), (r40, .inl (γ.2.1, wl L (N + 1), .inl fr40)), (r43, .inl (γ.2.1, wl L (N + 1), .inl fr43)), (r46, .inl (γ.2.1, wl L (N + 1), .inl fr46)), (b5_2, .inl (γ.2.1, 256, .inl f5_2)), (b6_2, .inl (γ.2.1, 32, .inl f6_2))] := hD
  refine lv_iload_n hx hb dNames_put_85 rfl (lv_at hl 1 rfl) ?_
  refine lv_sipush (v := 255) hx hb dNames_put_86 (by decide) ?_
  refine lv_iand hx hb dNames_put_89 ?_
  refine lv_topi (fun v47 ev47 => ?_)
  refine lv_istore (lv' := [(5, .int v47), (0, .ref a), (1, .int x1), (2, .int x2), (3, .int x3), (4, .int x4)]) hx hb dNames_put_90 hl (by decide) rfl (fun ls hl => ?_)
  refine lv_aload_n hx hb dNames_put_92 rfl (lv_at hl 1 rfl) ?_
  refine va_get (D := γ.1) (ci := 2) (v := .ref r34) (C := R_Names) (T := T_Names) (N := 9) (Ts := bs_W0) hx hb hW in_Names hown hC.1 hP 0 rfl rfl 0 (by decide) (hW _ qw_a8d4a716ae) (fun _ h9 => h9) rfl dNames_put_93 ?_
  refine lv_aload_n hx hb dNames_put_96 rfl (lv_at hl 1 rfl) ?_
  refine va_get (D := γ.1) (ci := 2) (v := .int (nI N)) (C := R_Names) (T := T_Names) (N := 9) (Ts := bs_W0) hx hb hW in_Names hown hC.1 hP 0 rfl rfl 7 (by decide) (hW _ qw_171adcdf9f) (fun _ h9 => h9) rfl dNames_put_97 ?_
  refine lv_topi (fun v48 ev48 => ?_)
  refine lv_iload_n hx hb dNames_put_100 rfl (lv_at hl 2 rfl) ?_
  refine va_iast hx hb hC.1 hP hD hS 1 0 rfl rfl (by rw [ev48]; exact in_sz (by omega) (by omega)) dNames_put_101 (fun H locs hP hD hS => ?_)
  obtain ⟨u49, eu49⟩ : ∃ z : Nat → Int32, z = upd fr34 (v48).toNatClampNeg x1 := ⟨_, rfl⟩
  rw [← eu49] at hP hD
  have hP : va_P γ.1 vwCl [(a, .inr (2, [.ref r34, .ref r37, .ref r40, .ref r43, .ref r46, .ref b5_2, .ref b6_2, .int (nI N), .int (nI sc)])), (r34, .inl (γ.2.1, wl L (N + 1), .inl u49)), (r37, .inl (γ.2.1, wl L (N + 1), .inl fr37)), (r40, .inl (γ.2.1, wl L (N + 1), .inl fr40)), (r43, .inl (γ.2.1, wl L (N + 1), .inl fr43)), (r46, .inl (γ.2.1, wl L (N + 1), .inl fr46)), (b5_2, .inl (γ.2.1, 256, .inl f5_2)), (b6_2, .inl (γ.2.1, 32, .inl f6_2))] _ := hP
  have hD : va_D Z [(a, .inr (2, [.ref r34, .ref r37, .ref r40, .ref r43, .ref r46, .ref b5_2, .ref b6_2, .int (nI N), .int (nI sc)])), (r34, .inl (γ.2.1, wl L (N + 1), .inl u49)), (r37, .inl (γ.2.1, wl L (N + 1), .inl fr37)), (r40, .inl (γ.2.1, wl L (N + 1), .inl fr40)), (r43, .inl (γ.2.1, wl L (N + 1), .inl fr43)), (r46, .inl (γ.2.1, wl L (N + 1), .inl fr46)), (b5_2, .inl (γ.2.1, 256, .inl f5_2)), (b6_2, .inl (γ.2.1, 32, .inl f6_2))] := hD
  refine lv_aload_n hx hb dNames_put_102 rfl (lv_at hl 1 rfl) ?_
  refine va_get (D := γ.1) (ci := 2) (v := .ref r37) (C := R_Names) (T := T_Names) (N := 9) (Ts := bs_W0) hx hb hW in_Names hown hC.1 hP 0 rfl rfl 1 (by decide) (hW _ qw_5903ecb25d) (fun _ h9 => h9) rfl dNames_put_103 ?_
  refine lv_aload_n hx hb dNames_put_106 rfl (lv_at hl 1 rfl) ?_
  refine va_get (D := γ.1) (ci := 2) (v := .int (nI N)) (C := R_Names) (T := T_Names) (N := 9) (Ts := bs_W0) hx hb hW in_Names hown hC.1 hP 0 rfl rfl 7 (by decide) (hW _ qw_171adcdf9f) (fun _ h9 => h9) rfl dNames_put_107 ?_
  refine lv_topi (fun v50 ev50 => ?_)
  refine lv_iload_n hx hb dNames_put_110 rfl (lv_at hl 3 rfl) ?_
  refine va_iast hx hb hC.1 hP hD hS 2 0 rfl rfl (by rw [ev50]; exact in_sz (by omega) (by omega)) dNames_put_111 (fun H locs hP hD hS => ?_)
  obtain ⟨u51, eu51⟩ : ∃ z : Nat → Int32, z = upd fr37 (v50).toNatClampNeg x2 := ⟨_, rfl⟩
  rw [← eu51] at hP hD
  have hP : va_P γ.1 vwCl [(a, .inr (2, [.ref r34, .ref r37, .ref r40, .ref r43, .ref r46, .ref b5_2, .ref b6_2, .int (nI N), .int (nI sc)])), (r34, .inl (γ.2.1, wl L (N + 1), .inl u49)), (r37, .inl (γ.2.1, wl L (N + 1), .inl u51)), (r40, .inl (γ.2.1, wl L (N + 1), .inl fr40)), (r43, .inl (γ.2.1, wl L (N + 1), .inl fr43)), (r46, .inl (γ.2.1, wl L (N + 1), .inl fr46)), (b5_2, .inl (γ.2.1, 256, .inl f5_2)), (b6_2, .inl (γ.2.1, 32, .inl f6_2))] _ := hP
  have hD : va_D Z [(a, .inr (2, [.ref r34, .ref r37, .ref r40, .ref r43, .ref r46, .ref b5_2, .ref b6_2, .int (nI N), .int (nI sc)])), (r34, .inl (γ.2.1, wl L (N + 1), .inl u49)), (r37, .inl (γ.2.1, wl L (N + 1), .inl u51)), (r40, .inl (γ.2.1, wl L (N + 1), .inl fr40)), (r43, .inl (γ.2.1, wl L (N + 1), .inl fr43)), (r46, .inl (γ.2.1, wl L (N + 1), .inl fr46)), (b5_2, .inl (γ.2.1, 256, .inl f5_2)), (b6_2, .inl (γ.2.1, 32, .inl f6_2))] := hD
  refine lv_aload_n hx hb dNames_put_112 rfl (lv_at hl 1 rfl) ?_
  refine va_get (D := γ.1) (ci := 2) (v := .ref r40) (C := R_Names) (T := T_Names) (N := 9) (Ts := bs_W0) hx hb hW in_Names hown hC.1 hP 0 rfl rfl 2 (by decide) (hW _ qw_ee1ba38ad0) (fun _ h9 => h9) rfl dNames_put_113 ?_
  refine lv_aload_n hx hb dNames_put_116 rfl (lv_at hl 1 rfl) ?_
  refine va_get (D := γ.1) (ci := 2) (v := .int (nI N)) (C := R_Names) (T := T_Names) (N := 9) (Ts := bs_W0) hx hb hW in_Names hown hC.1 hP 0 rfl rfl 7 (by decide) (hW _ qw_171adcdf9f) (fun _ h9 => h9) rfl dNames_put_117 ?_
  refine lv_topi (fun v52 ev52 => ?_)
  refine lv_iload_n hx hb dNames_put_120 rfl (lv_at hl 4 rfl) ?_
  refine va_iast hx hb hC.1 hP hD hS 3 0 rfl rfl (by rw [ev52]; exact in_sz (by omega) (by omega)) dNames_put_121 (fun H locs hP hD hS => ?_)
  obtain ⟨u53, eu53⟩ : ∃ z : Nat → Int32, z = upd fr40 (v52).toNatClampNeg x3 := ⟨_, rfl⟩
  rw [← eu53] at hP hD
  have hP : va_P γ.1 vwCl [(a, .inr (2, [.ref r34, .ref r37, .ref r40, .ref r43, .ref r46, .ref b5_2, .ref b6_2, .int (nI N), .int (nI sc)])), (r34, .inl (γ.2.1, wl L (N + 1), .inl u49)), (r37, .inl (γ.2.1, wl L (N + 1), .inl u51)), (r40, .inl (γ.2.1, wl L (N + 1), .inl u53)), (r43, .inl (γ.2.1, wl L (N + 1), .inl fr43)), (r46, .inl (γ.2.1, wl L (N + 1), .inl fr46)), (b5_2, .inl (γ.2.1, 256, .inl f5_2)), (b6_2, .inl (γ.2.1, 32, .inl f6_2))] _ := hP
  have hD : va_D Z [(a, .inr (2, [.ref r34, .ref r37, .ref r40, .ref r43, .ref r46, .ref b5_2, .ref b6_2, .int (nI N), .int (nI sc)])), (r34, .inl (γ.2.1, wl L (N + 1), .inl u49)), (r37, .inl (γ.2.1, wl L (N + 1), .inl u51)), (r40, .inl (γ.2.1, wl L (N + 1), .inl u53)), (r43, .inl (γ.2.1, wl L (N + 1), .inl fr43)), (r46, .inl (γ.2.1, wl L (N + 1), .inl fr46)), (b5_2, .inl (γ.2.1, 256, .inl f5_2)), (b6_2, .inl (γ.2.1, 32, .inl f6_2))] := hD
  refine lv_aload_n hx hb dNames_put_122 rfl (lv_at hl 1 rfl) ?_
  refine va_get (D := γ.1) (ci := 2) (v := .ref r43) (C := R_Names) (T := T_Names) (N := 9) (Ts := bs_W0) hx hb hW in_Names hown hC.1 hP 0 rfl rfl 3 (by decide) (hW _ qw_1a22e5f505) (fun _ h9 => h9) rfl dNames_put_123 ?_
  refine lv_aload_n hx hb dNames_put_126 rfl (lv_at hl 1 rfl) ?_
  refine va_get (D := γ.1) (ci := 2) (v := .int (nI N)) (C := R_Names) (T := T_Names) (N := 9) (Ts := bs_W0) hx hb hW in_Names hown hC.1 hP 0 rfl rfl 7 (by decide) (hW _ qw_171adcdf9f) (fun _ h9 => h9) rfl dNames_put_127 ?_
  refine lv_topi (fun v54 ev54 => ?_)
  refine lv_iload hx hb dNames_put_130 (lv_at hl 5 rfl) ?_
  refine va_iast hx hb hC.1 hP hD hS 4 0 rfl rfl (by rw [ev54]; exact in_sz (by omega) (by omega)) dNames_put_132 (fun H locs hP hD hS => ?_)
  obtain ⟨u55, eu55⟩ : ∃ z : Nat → Int32, z = upd fr43 (v54).toNatClampNeg x4 := ⟨_, rfl⟩
  rw [← eu55] at hP hD
  have hP : va_P γ.1 vwCl [(a, .inr (2, [.ref r34, .ref r37, .ref r40, .ref r43, .ref r46, .ref b5_2, .ref b6_2, .int (nI N), .int (nI sc)])), (r34, .inl (γ.2.1, wl L (N + 1), .inl u49)), (r37, .inl (γ.2.1, wl L (N + 1), .inl u51)), (r40, .inl (γ.2.1, wl L (N + 1), .inl u53)), (r43, .inl (γ.2.1, wl L (N + 1), .inl u55)), (r46, .inl (γ.2.1, wl L (N + 1), .inl fr46)), (b5_2, .inl (γ.2.1, 256, .inl f5_2)), (b6_2, .inl (γ.2.1, 32, .inl f6_2))] _ := hP
  have hD : va_D Z [(a, .inr (2, [.ref r34, .ref r37, .ref r40, .ref r43, .ref r46, .ref b5_2, .ref b6_2, .int (nI N), .int (nI sc)])), (r34, .inl (γ.2.1, wl L (N + 1), .inl u49)), (r37, .inl (γ.2.1, wl L (N + 1), .inl u51)), (r40, .inl (γ.2.1, wl L (N + 1), .inl u53)), (r43, .inl (γ.2.1, wl L (N + 1), .inl u55)), (r46, .inl (γ.2.1, wl L (N + 1), .inl fr46)), (b5_2, .inl (γ.2.1, 256, .inl f5_2)), (b6_2, .inl (γ.2.1, 32, .inl f6_2))] := hD
  refine lv_aload_n hx hb dNames_put_133 rfl (lv_at hl 1 rfl) ?_
  refine va_get (D := γ.1) (ci := 2) (v := .ref r46) (C := R_Names) (T := T_Names) (N := 9) (Ts := bs_W0) hx hb hW in_Names hown hC.1 hP 0 rfl rfl 4 (by decide) (hW _ qw_ddfb92ec41) (fun _ h9 => h9) rfl dNames_put_134 ?_
  refine lv_aload_n hx hb dNames_put_137 rfl (lv_at hl 1 rfl) ?_
  refine va_get (D := γ.1) (ci := 2) (v := .int (nI N)) (C := R_Names) (T := T_Names) (N := 9) (Ts := bs_W0) hx hb hW in_Names hown hC.1 hP 0 rfl rfl 7 (by decide) (hW _ qw_171adcdf9f) (fun _ h9 => h9) rfl dNames_put_138 ?_
  refine lv_topi (fun v56 ev56 => ?_)
  refine lv_aload_n hx hb dNames_put_141 rfl (lv_at hl 1 rfl) ?_
  refine va_get (D := γ.1) (ci := 2) (v := .ref b5_2) (C := R_Names) (T := T_Names) (N := 9) (Ts := bs_W0) hx hb hW in_Names hown hC.1 hP 0 rfl rfl 5 (by decide) (hW _ qw_ae9666db7d) (fun _ h9 => h9) rfl dNames_put_142 ?_
  refine lv_iload hx hb dNames_put_145 (lv_at hl 0 rfl) ?_
  refine va_iald hx hb hC.1 hP 6 0 rfl rfl (by rw [ev47]; exact pk_andIn _ 8 (by decide) (by decide)) dNames_put_147 ?_
  refine lv_topi (fun v57 ev57 => ?_)
  refine va_iast hx hb hC.1 hP hD hS 5 0 rfl rfl (by rw [ev56]; exact in_sz (by omega) (by omega)) dNames_put_148 (fun H locs hP hD hS => ?_)
  obtain ⟨u58, eu58⟩ : ∃ z : Nat → Int32, z = upd fr46 (v56).toNatClampNeg v57 := ⟨_, rfl⟩
  rw [← eu58] at hP hD
  have hP : va_P γ.1 vwCl [(a, .inr (2, [.ref r34, .ref r37, .ref r40, .ref r43, .ref r46, .ref b5_2, .ref b6_2, .int (nI N), .int (nI sc)])), (r34, .inl (γ.2.1, wl L (N + 1), .inl u49)), (r37, .inl (γ.2.1, wl L (N + 1), .inl u51)), (r40, .inl (γ.2.1, wl L (N + 1), .inl u53)), (r43, .inl (γ.2.1, wl L (N + 1), .inl u55)), (r46, .inl (γ.2.1, wl L (N + 1), .inl u58)), (b5_2, .inl (γ.2.1, 256, .inl f5_2)), (b6_2, .inl (γ.2.1, 32, .inl f6_2))] _ := hP
  have hD : va_D Z [(a, .inr (2, [.ref r34, .ref r37, .ref r40, .ref r43, .ref r46, .ref b5_2, .ref b6_2, .int (nI N), .int (nI sc)])), (r34, .inl (γ.2.1, wl L (N + 1), .inl u49)), (r37, .inl (γ.2.1, wl L (N + 1), .inl u51)), (r40, .inl (γ.2.1, wl L (N + 1), .inl u53)), (r43, .inl (γ.2.1, wl L (N + 1), .inl u55)), (r46, .inl (γ.2.1, wl L (N + 1), .inl u58)), (b5_2, .inl (γ.2.1, 256, .inl f5_2)), (b6_2, .inl (γ.2.1, 32, .inl f6_2))] := hD
  refine lv_aload_n hx hb dNames_put_149 rfl (lv_at hl 1 rfl) ?_
  refine va_get (D := γ.1) (ci := 2) (v := .ref b5_2) (C := R_Names) (T := T_Names) (N := 9) (Ts := bs_W0) hx hb hW in_Names hown hC.1 hP 0 rfl rfl 5 (by decide) (hW _ qw_ae9666db7d) (fun _ h9 => h9) rfl dNames_put_150 ?_
  refine lv_iload hx hb dNames_put_153 (lv_at hl 0 rfl) ?_
  refine lv_aload_n hx hb dNames_put_155 rfl (lv_at hl 1 rfl) ?_
  refine va_get (D := γ.1) (ci := 2) (v := .int (nI N)) (C := R_Names) (T := T_Names) (N := 9) (Ts := bs_W0) hx hb hW in_Names hown hC.1 hP 0 rfl rfl 7 (by decide) (hW _ qw_171adcdf9f) (fun _ h9 => h9) rfl dNames_put_156 ?_
  refine lv_topi (fun v59 ev59 => ?_)
  refine va_iast hx hb hC.1 hP hD hS 6 0 rfl rfl (by rw [ev47]; exact pk_andIn _ 8 (by decide) (by decide)) dNames_put_159 (fun H locs hP hD hS => ?_)
  obtain ⟨u60, eu60⟩ : ∃ z : Nat → Int32, z = upd f5_2 (v47).toNatClampNeg v59 := ⟨_, rfl⟩
  rw [← eu60] at hP hD
  have hP : va_P γ.1 vwCl [(a, .inr (2, [.ref r34, .ref r37, .ref r40, .ref r43, .ref r46, .ref b5_2, .ref b6_2, .int (nI N), .int (nI sc)])), (r34, .inl (γ.2.1, wl L (N + 1), .inl u49)), (r37, .inl (γ.2.1, wl L (N + 1), .inl u51)), (r40, .inl (γ.2.1, wl L (N + 1), .inl u53)), (r43, .inl (γ.2.1, wl L (N + 1), .inl u55)), (r46, .inl (γ.2.1, wl L (N + 1), .inl u58)), (b5_2, .inl (γ.2.1, 256, .inl u60)), (b6_2, .inl (γ.2.1, 32, .inl f6_2))] _ := hP
  have hD : va_D Z [(a, .inr (2, [.ref r34, .ref r37, .ref r40, .ref r43, .ref r46, .ref b5_2, .ref b6_2, .int (nI N), .int (nI sc)])), (r34, .inl (γ.2.1, wl L (N + 1), .inl u49)), (r37, .inl (γ.2.1, wl L (N + 1), .inl u51)), (r40, .inl (γ.2.1, wl L (N + 1), .inl u53)), (r43, .inl (γ.2.1, wl L (N + 1), .inl u55)), (r46, .inl (γ.2.1, wl L (N + 1), .inl u58)), (b5_2, .inl (γ.2.1, 256, .inl u60)), (b6_2, .inl (γ.2.1, 32, .inl f6_2))] := hD
  refine lv_aload_n hx hb dNames_put_160 rfl (lv_at hl 1 rfl) ?_
  refine lv_dup hx hb dNames_put_161 rfl ?_
  refine va_get (D := γ.1) (ci := 2) (v := .int (nI N)) (C := R_Names) (T := T_Names) (N := 9) (Ts := bs_W0) hx hb hW in_Names hown hC.1 hP 0 rfl rfl 7 (by decide) (hW _ qw_171adcdf9f) (fun _ h9 => h9) rfl dNames_put_162 ?_
  refine lv_topi (fun v61 ev61 => ?_)
  refine lv_iconst (v := 1) hx hb dNames_put_165 (by decide) ?_
  refine lv_iadd hx hb dNames_put_166 ?_
  refine lv_topi (fun v62 ev62 => ?_)
  have ev62 : v62 = nI (N + 1) := by rw [ev62, ev61]; exact nI_add (N) (1)
  obtain rfl : v62 = nI (N + 1) := ev62
  refine va_put (D := γ.1) (ci := 2) (v := .int (nI (N + 1))) (ty := .int) (C := R_Names) (T := T_Names) (N := 9) (Ts := bs_W0) hx hb hW in_Names t_Names t_Names_ok n_Names hown hC.1 hP hD hS 0 rfl rfl 7 (by decide) (hW _ qw_171adcdf9f) (fun _ h9 => h9) rfl (by decide +kernel) rfl rfl (Nat.le_of_ble_eq_true rfl) dNames_put_167 (fun H locs hP hD hS => ?_)
  have hP : va_P γ.1 vwCl [(a, .inr (2, [.ref r34, .ref r37, .ref r40, .ref r43, .ref r46, .ref b5_2, .ref b6_2, .int (nI (N + 1)), .int (nI sc)])), (r34, .inl (γ.2.1, wl L (N + 1), .inl u49)), (r37, .inl (γ.2.1, wl L (N + 1), .inl u51)), (r40, .inl (γ.2.1, wl L (N + 1), .inl u53)), (r43, .inl (γ.2.1, wl L (N + 1), .inl u55)), (r46, .inl (γ.2.1, wl L (N + 1), .inl u58)), (b5_2, .inl (γ.2.1, 256, .inl u60)), (b6_2, .inl (γ.2.1, 32, .inl f6_2))] _ := hP
  have hD : va_D Z [(a, .inr (2, [.ref r34, .ref r37, .ref r40, .ref r43, .ref r46, .ref b5_2, .ref b6_2, .int (nI (N + 1)), .int (nI sc)])), (r34, .inl (γ.2.1, wl L (N + 1), .inl u49)), (r37, .inl (γ.2.1, wl L (N + 1), .inl u51)), (r40, .inl (γ.2.1, wl L (N + 1), .inl u53)), (r43, .inl (γ.2.1, wl L (N + 1), .inl u55)), (r46, .inl (γ.2.1, wl L (N + 1), .inl u58)), (b5_2, .inl (γ.2.1, 256, .inl u60)), (b6_2, .inl (γ.2.1, 32, .inl f6_2))] := hD
  have hI : cmp γ (fNames γ a (N + 1) sc (wl L (N + 1))) Z _ := ⟨_, ⟨r34, r37, r40, r43, r46, b5_2, b6_2, u49, u51, u53, u55, u58, u60, f6_2, rfl, (by omega), (by omega), (by omega), (by omega), (by omega), (by obtain ⟨g, q1, q2, q3⟩ := h6_2; exact ⟨g, q1, q2, fun k hk => Nat.le_trans (q3 k hk) (by omega)⟩)⟩, hP, hD⟩
  have hQ := hE _ _ 170 ls hS hI dNames_put_170
  refine W.cs (cells' := 0 + wc L (N + 1) + wc L (N + 1) + wc L (N + 1) + wc L (N + 1) + wc L (N + 1)) (slots' := 0 + wm L (N + 1) + wm L (N + 1) + wm L (N + 1) + wm L (N + 1) + wm L (N + 1)) (by omega) (by omega) ?_
  exact hQ
