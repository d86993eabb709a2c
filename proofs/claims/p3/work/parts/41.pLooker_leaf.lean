theorem qw_4a9343ff4b : (Cond.methodLink R_Looker 163 yLooks_note) ∈ bs_W0 := bs_in (in_tables_1_3 (List.mem_of_getElem? (i := 169) rfl)) rfl
theorem qw_e1c79dd267 : (Cond.methodLink R_Looker 167 yLooks_setNumber) ∈ bs_W0 := bs_in (in_tables_1_3 (List.mem_of_getElem? (i := 170) rfl)) rfl
theorem qn_a213139c06 : (Cond.fieldLinkNest R_Looker 171 R_Looks "rows" "LTypeBook$Rows;" "TypeBook") ∈ lw_tbl := in_tables_1_1 (List.mem_of_getElem? (i := 211) rfl)
theorem qw_b9b967fb15 : (Cond.methodLink R_Looker 175 yRows_set) ∈ bs_W0 := bs_in (in_tables_1_3 (List.mem_of_getElem? (i := 175) rfl)) rfl
theorem qw_b381ab4f95 : (Cond.methodLink R_Looker 67 yTrees_firstOf) ∈ bs_W0 := bs_in (in_tables_1_3 (List.mem_of_getElem? (i := 47) rfl)) rfl
theorem qw_cd2627b7de : (Cond.methodLink R_Looker 120 yLooks_forget) ∈ bs_W0 := bs_in (in_tables_1_3 (List.mem_of_getElem? (i := 60) rfl)) rfl
theorem qw_3b1b00c0af : (Cond.fieldLink R_Looker 52 R_Looker "meanings" "LTypeBook$Meanings;") ∈ bs_W0 := bs_in (in_tables_1_2 (List.mem_of_getElem? (i := 31) rfl)) rfl
theorem qw_841e106d86 : (Cond.methodLink R_Looker 123 yMeanings_name) ∈ bs_W0 := bs_in (in_tables_1_3 (List.mem_of_getElem? (i := 61) rfl)) rfl
theorem qw_64cdf205e9 : (Cond.constant R_Looker 126 2147483647) ∈ bs_W0 := bs_in (in_tables_1_3 (List.mem_of_getElem? (i := 162) rfl)) rfl
theorem qw_79469fc119 : (Cond.methodLink R_Looker 127 yLooker_leaf) ∈ bs_W0 := bs_in (in_tables_1_3 (List.mem_of_getElem? (i := 163) rfl)) rfl
theorem qw_530ab62a99 : (Cond.methodLink R_Looker 131 yLooker_signs) ∈ bs_W0 := bs_in (in_tables_1_3 (List.mem_of_getElem? (i := 171) rfl)) rfl
theorem qw_818b7cddc8 : (Cond.methodLink R_Looker 134 yLooker_isOperator) ∈ bs_W0 := bs_in (in_tables_1_3 (List.mem_of_getElem? (i := 181) rfl)) rfl
theorem qw_859ddf9a22 : (Cond.fieldLink R_Looker 23 R_Looker "operators" "LTypeBook$Operators;") ∈ bs_W0 := bs_in (in_tables_1_2 (List.mem_of_getElem? (i := 30) rfl)) rfl
theorem qw_4f84b70a81 : (Cond.methodLink R_Looker 141 yOperators_unary) ∈ bs_W0 := bs_in (in_tables_1_3 (List.mem_of_getElem? (i := 185) rfl)) rfl
theorem qw_b6429af45c : (Cond.methodLink R_Looker 147 yOperators_binary) ∈ bs_W0 := bs_in (in_tables_1_3 (List.mem_of_getElem? (i := 230) rfl)) rfl
theorem qw_ad354f94c6 : (Cond.methodLink R_Looker 151 yMeanings_apply) ∈ bs_W0 := bs_in (in_tables_1_4 (List.mem_of_getElem? (i := 104) rfl)) rfl
theorem qw_ee93ba46af : (Cond.methodLink R_Looker 154 yMeanings_slice) ∈ bs_W0 := bs_in (in_tables_1_4 (List.mem_of_getElem? (i := 163) rfl)) rfl
theorem qw_19aeb78c12 : (Cond.methodLink R_Looker 157 yMeanings_attribute) ∈ bs_W0 := bs_in (in_tables_1_4 (List.mem_of_getElem? (i := 177) rfl)) rfl
theorem qw_afa922b076 : (Cond.methodLink R_Looks 47 yLooks_classOf) ∈ bs_W0 := bs_in (in_tables_1_4 (List.mem_of_getElem? (i := 231) rfl)) rfl
theorem qw_76af360b84 : (Cond.methodLink R_Looks 51 yLooks_extentOf) ∈ bs_W0 := bs_in (in_tables_1_4 (List.mem_of_getElem? (i := 232) rfl)) rfl
theorem qw_baacda067f : (Cond.methodLink R_Looks 54 yLooks_isFixed) ∈ bs_W0 := bs_in (in_tables_1_4 (List.mem_of_getElem? (i := 233) rfl)) rfl
theorem qw_a636540c8a : (Cond.methodLink R_Looks 57 yLooks_note) ∈ bs_W0 := bs_in (in_tables_1_4 (List.mem_of_getElem? (i := 234) rfl)) rfl
theorem qw_95efa8fed5 : (Cond.methodLink R_Looks 61 yLooks_meaningOf) ∈ bs_W0 := bs_in (in_tables_1_4 (List.mem_of_getElem? (i := 235) rfl)) rfl
theorem qw_fccdde971d : (Cond.methodLink R_Looks 64 yLooks_setMeaning) ∈ bs_W0 := bs_in (in_tables_1_4 (List.mem_of_getElem? (i := 236) rfl)) rfl
theorem qw_dce361ad2f : (Cond.methodLink R_Looks 68 yLooks_numberOf) ∈ bs_W0 := bs_in (in_tables_1_4 (List.mem_of_getElem? (i := 237) rfl)) rfl
theorem qw_58cf4eec0a : (Cond.methodLink R_Looks 71 yLooks_setNumber) ∈ bs_W0 := bs_in (in_tables_1_4 (List.mem_of_getElem? (i := 238) rfl)) rfl
theorem qw_50f3c1330a : (Cond.fieldLink R_Looks 32 R_Looks "rows" "LTypeBook$Rows;") ∈ bs_W0 := bs_in (in_tables_1_1 (List.mem_of_getElem? (i := 207) rfl)) rfl
theorem qw_4050b11111 : (Cond.methodLink R_Looks 74 yRows_copy) ∈ bs_W0 := bs_in (in_tables_1_4 (List.mem_of_getElem? (i := 239) rfl)) rfl
theorem qw_ce0ad21609 : (Cond.methodLink R_Objects 45 yLooks_numberOf) ∈ bs_W0 := bs_in (in_tables_1_5 (List.mem_of_getElem? (i := 94) rfl)) rfl
theorem qw_f4aeeaf054 : (Cond.fieldLink R_Objects 26 R_Objects "rows" "LTypeBook$Rows;") ∈ bs_W0 := bs_in (in_tables_1_1 (List.mem_of_getElem? (i := 179) rfl)) rfl
theorem qn_d9aceef3ce : (Cond.fieldLinkNest R_Objects 51 R_Looks "rows" "LTypeBook$Rows;" "TypeBook") ∈ lw_tbl := in_tables_1_1 (List.mem_of_getElem? (i := 210) rfl)
theorem qw_d8c0d69073 : (Cond.methodLink R_Objects 52 yRows_copy) ∈ bs_W0 := bs_in (in_tables_1_5 (List.mem_of_getElem? (i := 95) rfl)) rfl
set_option maxHeartbeats 4000000 in
set_option maxRecDepth 100000 in
theorem k_Looker_leaf (l : Launch) (γ : gE) (A : Nat → Prop) (κ : Nat → Nat) (x1 : Int32) (x2 : Int32) (x3 : Int32) : MU l yLooker_leaf bLooker_leaf 5 (some .int) 2 45 0 0 [.ref (γ.2.2.2 8), .int x1, .int x2, .int x3] γ A (INV γ A κ) (mQi (fun r H => True ∧ INV γ A κ H) A) := by
  refine mu_openI (by decide) (Nat.le_of_ble_eq_true rfl) ?_
  intro p e s m args below meth c ls Q S hnm hC hA hI hE hl
  obtain ⟨hx, hb, hml, hown, hW⟩ := id S
  have hS : va_S A s.heap s.heap [] := va_S.rf
  have hl : lv_has ls 5 [(0, .ref (γ.2.2.2 8)), (1, .int x1), (2, .int x2), (3, .int x3)] := hl
  refine lv_aload_n hx hb dLooker_leaf_0 rfl (lv_at hl 0 rfl) ?_
  refine of_get S hC (of_8_0 hI) in_Looker rfl (by decide) qw_22d2793f25 dLooker_leaf_1 ?_
  refine lv_iload_n hx hb dLooker_leaf_4 rfl (lv_at hl 1 rfl) ?_
  refine pu_Vi (rest := []) S hC (k1_Trees_valueOf l γ A κ x1) meTrees_valueOf qw_ea9162cf9a ⟨Nat.le_of_ble_eq_true rfl, Nat.le_of_ble_eq_true rfl⟩ (rv_1 hC hI) hI rfl hl.1 rfl (Nat.le_of_ble_eq_true rfl) dLooker_leaf_5 ⟨Nat.zero_le _, Nat.zero_le _⟩ (fun r8 hr8 => ?_)
  refine lv_istore (lv' := [(4, .int r8), (0, .ref (γ.2.2.2 8)), (1, .int x1), (2, .int x2), (3, .int x3)]) hx hb dLooker_leaf_8 hl (by decide) rfl (fun ls hl => ?_)
  refine lv_aload_n hx hb dLooker_leaf_10 rfl (lv_at hl 1 rfl) ?_
  refine of_get S hC (of_8_0 hI) in_Looker rfl (by decide) qw_22d2793f25 dLooker_leaf_11 ?_
  refine lv_iload_n hx hb dLooker_leaf_14 rfl (lv_at hl 2 rfl) ?_
  refine pu_Vi (rest := []) S hC (k1_Trees_countOf l γ A κ x1) meTrees_countOf qw_195048702c ⟨Nat.le_of_ble_eq_true rfl, Nat.le_of_ble_eq_true rfl⟩ (rv_1 hC hI) hI rfl hl.1 rfl (Nat.le_of_ble_eq_true rfl) dLooker_leaf_15 ⟨Nat.zero_le _, Nat.zero_le _⟩ (fun r9 hr9 => ?_)
  refine lv_if_ne (tgt := 32) hx hb dLooker_leaf_18 (by decide) (fun c10 => ?_) (fun c10 => ?_)
  · refine lv_bipush (v := 11) hx hb dLooker_leaf_32 (by decide) ?_
    exact hE _ _ _ _ _ hS ⟨trivial, hI⟩ dLooker_leaf_34
  · refine lv_iload hx hb dLooker_leaf_21 (lv_at hl 0 rfl) ?_
    refine lv_if_lt (tgt := 32) hx hb dLooker_leaf_23 (by decide) (fun c11 => ?_) (fun c11 => ?_)
    · refine lv_bipush (v := 11) hx hb dLooker_leaf_32 (by decide) ?_
      exact hE _ _ _ _ _ hS ⟨trivial, hI⟩ dLooker_leaf_34
    · refine lv_iload hx hb dLooker_leaf_26 (lv_at hl 0 rfl) ?_
      refine lv_iload_n hx hb dLooker_leaf_28 rfl (lv_at hl 4 rfl) ?_
      refine lv_icmp_le (tgt := 35) hx hb dLooker_leaf_29 (by decide) (fun c12 => ?_) (fun c12 => ?_)
      · refine lv_aload_n hx hb dLooker_leaf_35 rfl (lv_at hl 1 rfl) ?_
        refine of_get S hC (of_8_3 hI) in_Looker rfl (by decide) qw_77aeadf252 dLooker_leaf_36 ?_
        refine lv_iload_n hx hb dLooker_leaf_39 rfl (lv_at hl 2 rfl) ?_
        refine lv_iload_n hx hb dLooker_leaf_40 rfl (lv_at hl 3 rfl) ?_
        refine lv_iconst (v := 0) hx hb dLooker_leaf_41 (by decide) ?_
        refine lv_iconst (v := 1) hx hb dLooker_leaf_42 (by decide) ?_
        refine mu_Vv (rest := []) S hC (fun q h => hA q (Nat.le_trans hS.1 h)) (fun q h => h) hS (k9_Looks_note l γ A κ x1 x2 0 1) meLooks_note qw_4a9343ff4b ⟨Nat.le_of_ble_eq_true rfl, Nat.le_of_ble_eq_true rfl⟩ (rv_9 hC hI) hI rfl hl.1 rfl (Nat.le_of_ble_eq_true rfl) dLooker_leaf_43 ⟨Nat.le_refl _, Nat.le_refl _⟩ (fun H locs hI hS _ _ => ?_)
        refine lv_aload_n hx hb dLooker_leaf_46 rfl (lv_at hl 1 rfl) ?_
        refine of_get S hC (of_8_3 hI) in_Looker rfl (by decide) qw_77aeadf252 dLooker_leaf_47 ?_
        refine lv_iload_n hx hb dLooker_leaf_50 rfl (lv_at hl 2 rfl) ?_
        refine lv_iload hx hb dLooker_leaf_51 (lv_at hl 0 rfl) ?_
        refine mu_Vv (rest := []) S hC (fun q h => hA q (Nat.le_trans hS.1 h)) (fun q h => h) hS (k9_Looks_setNumber l γ A κ x1 r8) meLooks_setNumber qw_e1c79dd267 ⟨Nat.le_of_ble_eq_true rfl, Nat.le_of_ble_eq_true rfl⟩ (rv_9 hC hI) hI rfl hl.1 rfl (Nat.le_of_ble_eq_true rfl) dLooker_leaf_53 ⟨Nat.le_refl _, Nat.le_refl _⟩ (fun H locs hI hS _ _ => ?_)
        refine lv_iconst (v := 0) hx hb dLooker_leaf_56 (by decide) ?_
        exact hE _ _ _ _ _ hS ⟨trivial, hI⟩ dLooker_leaf_57
      · refine lv_bipush (v := 11) hx hb dLooker_leaf_32 (by decide) ?_
        exact hE _ _ _ _ _ hS ⟨trivial, hI⟩ dLooker_leaf_34

set_option maxHeartbeats 4000000 in
set_option maxRecDepth 100000 in
theorem k_Looker_signs (l : Launch) (γ : gE) (A : Nat → Prop) (κ : Nat → Nat) (x1 : Int32) : MU l yLooker_signs bLooker_signs 5 (some .int) 2 45 0 0 [.ref (γ.2.2.2 8), .int x1] γ A (INV γ A κ) (mQi (fun r H => True ∧ INV γ A κ H) A) := by
  refine mu_openI (by decide) (Nat.le_of_ble_eq_true rfl) ?_
  intro p e s m args below meth c ls Q S hnm hC hA hI hE hl
  obtain ⟨hx, hb, hml, hown, hW⟩ := id S
  have hS : va_S A s.heap s.heap [] := va_S.rf
  have hl : lv_has ls 5 [(0, .ref (γ.2.2.2 8)), (1, .int x1)] := hl
  have J30 : ∀ (N30 : Nat) (ls : Array Slot) (H : Heap) (locs : List Loc) (i1 : Int32) (i2 : Int32) (i3 : Int32) (i4 : Int32), INV γ A κ H → va_S A s.heap H locs → (2147483647 - i4.toInt).toNat = N30 → lv_has ls 5 [(0, .ref (γ.2.2.2 8)), (1, .int i1), (2, .int i2), (3, .int i3), (4, .int i4)] → W p l e (bs_rm 2 0 0 45) s m args below meth c H locs 0 0 Q (F0 m 30 ls []) := by
    intro N30
    induction N30 using Nat.strongRecOn with
    | ind N30 ih30 =>
      intro ls H locs i1 i2 i3 i4 hI hS hm30 hl
      refine lv_iload hx hb dLooker_signs_30 (lv_at hl 4 rfl) ?_
      refine lv_iload_n hx hb dLooker_signs_32 rfl (lv_at hl 2 rfl) ?_
      refine lv_icmp_ge (tgt := 89) hx hb dLooker_signs_33 (by decide) (fun c14 => ?_) (fun c14 => ?_)
      · refine lv_aload_n hx hb dLooker_signs_89 rfl (lv_at hl 0 rfl) ?_
        refine of_get S hC (of_8_3 hI) in_Looker rfl (by decide) qw_77aeadf252 dLooker_signs_90 ?_
        refine lv_iload_n hx hb dLooker_signs_93 rfl (lv_at hl 1 rfl) ?_
        refine lv_iconst (v := 3) hx hb dLooker_signs_94 (by decide) ?_
        refine lv_iload_n hx hb dLooker_signs_95 rfl (lv_at hl 2 rfl) ?_
        refine lv_iconst (v := 1) hx hb dLooker_signs_96 (by decide) ?_
        refine mu_Vv (rest := []) S hC (fun q h => hA q (Nat.le_trans hS.1 h)) (fun q h => h) hS (k9_Looks_note l γ A κ i1 3 i2 1) meLooks_note qw_4a9343ff4b ⟨Nat.le_of_ble_eq_true rfl, Nat.le_of_ble_eq_true rfl⟩ (rv_9 hC hI) hI rfl hl.1 rfl (Nat.le_of_ble_eq_true rfl) dLooker_signs_97 ⟨Nat.le_refl _, Nat.le_refl _⟩ (fun H locs hI hS _ _ => ?_)
        refine lv_iconst (v := 0) hx hb dLooker_signs_100 (by decide) ?_
        exact hE _ _ _ _ _ hS ⟨trivial, hI⟩ dLooker_signs_101
      · refine lv_aload_n hx hb dLooker_signs_36 rfl (lv_at hl 0 rfl) ?_
        refine of_get S hC (of_8_0 hI) in_Looker rfl (by decide) qw_22d2793f25 dLooker_signs_37 ?_
        refine lv_iload_n hx hb dLooker_signs_40 rfl (lv_at hl 3 rfl) ?_
        refine pu_Vi (rest := []) S hC (k1_Trees_kindOf l γ A κ i3) meTrees_kindOf qw_f48a4a6aed ⟨Nat.le_of_ble_eq_true rfl, Nat.le_of_ble_eq_true rfl⟩ (rv_1 hC hI) hI rfl hl.1 rfl (Nat.le_of_ble_eq_true rfl) dLooker_signs_41 ⟨Nat.zero_le _, Nat.zero_le _⟩ (fun r16 hr16 => ?_)
        refine lv_iconst (v := 3) hx hb dLooker_signs_44 (by decide) ?_
        refine lv_icmp_eq (tgt := 51) hx hb dLooker_signs_45 (by decide) (fun c17 => ?_) (fun c17 => ?_)
        · refine lv_aload_n hx hb dLooker_signs_51 rfl (lv_at hl 0 rfl) ?_
          refine of_get S hC (of_8_3 hI) in_Looker rfl (by decide) qw_77aeadf252 dLooker_signs_52 ?_
          refine of_getN S hC (of_9_5 hI) in_Looks rfl (by decide) qn_a213139c06 dLooker_signs_55 ?_
          refine lv_iload_n hx hb dLooker_signs_58 rfl (lv_at hl 1 rfl) ?_
          refine lv_iload hx hb dLooker_signs_59 (lv_at hl 4 rfl) ?_
          refine lv_aload_n hx hb dLooker_signs_61 rfl (lv_at hl 0 rfl) ?_
          refine of_get S hC (of_8_0 hI) in_Looker rfl (by decide) qw_22d2793f25 dLooker_signs_62 ?_
          refine lv_iload_n hx hb dLooker_signs_65 rfl (lv_at hl 3 rfl) ?_
          refine pu_Vi (rest := [.int i4, .int i1, .ref (γ.2.2.2 10)]) S hC (k1_Trees_valueOf l γ A κ i3) meTrees_valueOf qw_ea9162cf9a ⟨Nat.le_of_ble_eq_true rfl, Nat.le_of_ble_eq_true rfl⟩ (rv_1 hC hI) hI rfl hl.1 rfl (Nat.le_of_ble_eq_true rfl) dLooker_signs_66 ⟨Nat.zero_le _, Nat.zero_le _⟩ (fun r18 hr18 => ?_)
          refine mu_Vv (rest := []) S hC (fun q h => hA q (Nat.le_trans hS.1 h)) (fun q h => h) hS (k10_Rows_set l γ A κ i1 i4 r18) meRows_set qw_b9b967fb15 ⟨Nat.le_of_ble_eq_true rfl, Nat.le_of_ble_eq_true rfl⟩ (rv_10 hC hI) hI rfl hl.1 rfl (Nat.le_of_ble_eq_true rfl) dLooker_signs_69 ⟨Nat.le_refl _, Nat.le_refl _⟩ (fun H locs hI hS _ _ => ?_)
          refine lv_aload_n hx hb dLooker_signs_72 rfl (lv_at hl 0 rfl) ?_
          refine of_get S hC (of_8_0 hI) in_Looker rfl (by decide) qw_22d2793f25 dLooker_signs_73 ?_
          refine lv_iload_n hx hb dLooker_signs_76 rfl (lv_at hl 3 rfl) ?_
          refine pu_Vi (rest := []) S hC (k1_Trees_firstOf l γ A κ i3) meTrees_firstOf qw_b381ab4f95 ⟨Nat.le_of_ble_eq_true rfl, Nat.le_of_ble_eq_true rfl⟩ (rv_1 hC hI) hI rfl hl.1 rfl (Nat.le_of_ble_eq_true rfl) dLooker_signs_77 ⟨Nat.zero_le _, Nat.zero_le _⟩ (fun r20 hr20 => ?_)
          refine lv_iconst (v := 1) hx hb dLooker_signs_80 (by decide) ?_
          refine lv_isub hx hb dLooker_signs_81 ?_
          refine lv_topi (fun v21 ev21 => ?_)
          refine lv_istore_n (lv' := [(3, .int v21), (0, .ref (γ.2.2.2 8)), (1, .int i1), (2, .int i2), (4, .int i4)]) hx hb dLooker_signs_82 rfl hl (by decide) rfl (fun ls hl => ?_)
          obtain ⟨v22, ev22⟩ : ∃ y : Int32, y = i4 + 1 := ⟨_, rfl⟩
          refine lv_iinc (v := v22) (lv' := [(4, .int v22), (3, .int v21), (0, .ref (γ.2.2.2 8)), (1, .int i1), (2, .int i2)]) hx hb dLooker_signs_83 hl (k := 4) rfl (by rw [ev22]; rfl) (by decide) rfl (fun ls hl => ?_)
          refine lv_goto (tgt := 30) hx hb dLooker_signs_86 (by decide) ?_
          exact ih30 _ (by have q1 : i4.toInt < 2147483647 := (by first | exact (mu_up (k := i4) (by assumption)).2 | assumption); have q2 := mu_lt q1; rw [← ev22] at q2; omega) ls _ _ i1 i2 v21 v22 hI hS rfl (lv_sub hl [2, 3, 4, 1, 0] rfl)
        · refine lv_bipush (v := 11) hx hb dLooker_signs_48 (by decide) ?_
          exact hE _ _ _ _ _ hS ⟨trivial, hI⟩ dLooker_signs_50
  refine lv_aload_n hx hb dLooker_signs_0 rfl (lv_at hl 0 rfl) ?_
  refine of_get S hC (of_8_0 hI) in_Looker rfl (by decide) qw_22d2793f25 dLooker_signs_1 ?_
  refine lv_iload_n hx hb dLooker_signs_4 rfl (lv_at hl 1 rfl) ?_
  refine pu_Vi (rest := []) S hC (k1_Trees_countOf l γ A κ x1) meTrees_countOf qw_195048702c ⟨Nat.le_of_ble_eq_true rfl, Nat.le_of_ble_eq_true rfl⟩ (rv_1 hC hI) hI rfl hl.1 rfl (Nat.le_of_ble_eq_true rfl) dLooker_signs_5 ⟨Nat.zero_le _, Nat.zero_le _⟩ (fun r23 hr23 => ?_)
  refine lv_istore_n (lv' := [(2, .int r23), (0, .ref (γ.2.2.2 8)), (1, .int x1)]) hx hb dLooker_signs_8 rfl hl (by decide) rfl (fun ls hl => ?_)
  refine lv_iload_n hx hb dLooker_signs_9 rfl (lv_at hl 0 rfl) ?_
  refine lv_iconst (v := 1) hx hb dLooker_signs_10 (by decide) ?_
  refine lv_icmp_lt (tgt := 20) hx hb dLooker_signs_11 (by decide) (fun c24 => ?_) (fun c24 => ?_)
  · refine lv_bipush (v := 11) hx hb dLooker_signs_20 (by decide) ?_
    exact hE _ _ _ _ _ hS ⟨trivial, hI⟩ dLooker_signs_22
  · refine lv_iload_n hx hb dLooker_signs_14 rfl (lv_at hl 0 rfl) ?_
    refine lv_bipush (v := 64) hx hb dLooker_signs_15 (by decide) ?_
    refine lv_icmp_le (tgt := 23) hx hb dLooker_signs_17 (by decide) (fun c25 => ?_) (fun c25 => ?_)
    · refine lv_iload_n hx hb dLooker_signs_23 rfl (lv_at hl 2 rfl) ?_
      refine lv_iconst (v := 1) hx hb dLooker_signs_24 (by decide) ?_
      refine lv_isub hx hb dLooker_signs_25 ?_
      refine lv_topi (fun v26 ev26 => ?_)
      refine lv_istore_n (lv' := [(3, .int v26), (2, .int r23), (0, .ref (γ.2.2.2 8)), (1, .int x1)]) hx hb dLooker_signs_26 rfl hl (by decide) rfl (fun ls hl => ?_)
      refine lv_iconst (v := 0) hx hb dLooker_signs_27 (by decide) ?_
      refine lv_istore (lv' := [(4, .int 0), (3, .int v26), (2, .int r23), (0, .ref (γ.2.2.2 8)), (1, .int x1)]) hx hb dLooker_signs_28 hl (by decide) rfl (fun ls hl => ?_)
      exact J30 _ ls _ _ x1 r23 v26 0 hI hS rfl (lv_sub hl [3, 4, 2, 1, 0] rfl)
    · refine lv_bipush (v := 11) hx hb dLooker_signs_20 (by decide) ?_
      exact hE _ _ _ _ _ hS ⟨trivial, hI⟩ dLooker_signs_22

set_option maxHeartbeats 4000000 in
set_option maxRecDepth 100000 in
theorem k_Looker_lookAt (l : Launch) (γ : gE) (A : Nat → Prop) (κ : Nat → Nat) (x1 : Int32) : MU l yLooker_lookAt bLooker_lookAt 2 (some .int) 5 129 0 0 [.ref (γ.2.2.2 8), .int x1] γ A (INV γ A κ) (mQi (fun r H => True ∧ INV γ A κ H) A) := by
  refine mu_openI (by decide) (Nat.le_of_ble_eq_true rfl) ?_
  intro p e s m args below meth c ls Q S hnm hC hA hI hE hl
  obtain ⟨hx, hb, hml, hown, hW⟩ := id S
  have hS : va_S A s.heap s.heap [] := va_S.rf
  have hl : lv_has ls 2 [(0, .ref (γ.2.2.2 8)), (1, .int x1)] := hl
  refine lv_aload_n hx hb dLooker_lookAt_0 rfl (lv_at hl 0 rfl) ?_
  refine of_get S hC (of_8_3 hI) in_Looker rfl (by decide) qw_77aeadf252 dLooker_lookAt_1 ?_
  refine lv_iload_n hx hb dLooker_lookAt_4 rfl (lv_at hl 1 rfl) ?_
  refine mu_Vv (rest := []) S hC (fun q h => hA q (Nat.le_trans hS.1 h)) (fun q h => h) hS (k9_Looks_forget l γ A κ x1) meLooks_forget qw_cd2627b7de ⟨Nat.le_of_ble_eq_true rfl, Nat.le_of_ble_eq_true rfl⟩ (rv_9 hC hI) hI rfl hl.1 rfl (Nat.le_of_ble_eq_true rfl) dLooker_lookAt_5 ⟨Nat.le_refl _, Nat.le_refl _⟩ (fun H locs hI hS _ _ => ?_)
  refine lv_aload_n hx hb dLooker_lookAt_8 rfl (lv_at hl 0 rfl) ?_
  refine of_get S hC (of_8_0 hI) in_Looker rfl (by decide) qw_22d2793f25 dLooker_lookAt_9 ?_
  refine lv_iload_n hx hb dLooker_lookAt_12 rfl (lv_at hl 1 rfl) ?_
  refine pu_Vi (rest := []) S hC (k1_Trees_kindOf l γ A κ x1) meTrees_kindOf qw_f48a4a6aed ⟨Nat.le_of_ble_eq_true rfl, Nat.le_of_ble_eq_true rfl⟩ (rv_1 hC hI) hI rfl hl.1 rfl (Nat.le_of_ble_eq_true rfl) dLooker_lookAt_13 ⟨Nat.zero_le _, Nat.zero_le _⟩ (fun r48 hr48 => ?_)
  by_cases k49 : r48 = 1
  · subst k49
    refine lv_tableIn (tgt := 132) hx hb dLooker_lookAt_16 (by decide) (by decide) rfl (by decide) ?_
    refine lv_aload_n hx hb dLooker_lookAt_132 rfl (lv_at hl 0 rfl) ?_
    refine of_get S hC (of_8_5 hI) in_Looker rfl (by decide) qw_3b1b00c0af dLooker_lookAt_133 ?_
    refine lv_iload_n hx hb dLooker_lookAt_136 rfl (lv_at hl 1 rfl) ?_
    refine mu_Vi (rest := []) S hC (fun q h => hA q (Nat.le_trans hS.1 h)) (fun q h => h) hS (k_Meanings_name l γ A κ x1) meMeanings_name qw_841e106d86 ⟨Nat.le_of_ble_eq_true rfl, Nat.le_of_ble_eq_true rfl⟩ (rv_12 hC hI) hI rfl hl.1 rfl (Nat.le_of_ble_eq_true rfl) dLooker_lookAt_137 ⟨Nat.le_refl _, Nat.le_refl _⟩ (fun r50 H locs ⟨hr50, hI⟩ hS _ _ => ?_)
    exact hE _ _ _ _ _ hS ⟨trivial, hI⟩ dLooker_lookAt_140
  by_cases k51 : r48 = 2
  · subst k51
    refine lv_tableIn (tgt := 141) hx hb dLooker_lookAt_16 (by decide) (by decide) rfl (by decide) ?_
    refine lv_aload_n hx hb dLooker_lookAt_141 rfl (lv_at hl 0 rfl) ?_
    refine lv_iload_n hx hb dLooker_lookAt_142 rfl (lv_at hl 1 rfl) ?_
    refine lv_iconst (v := 2) hx hb dLooker_lookAt_143 (by decide) ?_
    refine lv_ldc (v := 2147483647) hx hb hown (hW _ qw_64cdf205e9) dLooker_lookAt_144 ?_
    refine mu_Vi (rest := []) S hC (fun q h => hA q (Nat.le_trans hS.1 h)) (fun q h => h) hS (k_Looker_leaf l γ A κ x1 2 2147483647) meLooker_leaf qw_79469fc119 ⟨Nat.le_of_ble_eq_true rfl, Nat.le_of_ble_eq_true rfl⟩ (rv_8 hC hI) hI rfl hl.1 rfl (Nat.le_of_ble_eq_true rfl) dLooker_lookAt_146 ⟨Nat.le_refl _, Nat.le_refl _⟩ (fun r52 H locs ⟨hr52, hI⟩ hS _ _ => ?_)
    exact hE _ _ _ _ _ hS ⟨trivial, hI⟩ dLooker_lookAt_149
  by_cases k53 : r48 = 3
  · subst k53
    refine lv_tableIn (tgt := 150) hx hb dLooker_lookAt_16 (by decide) (by decide) rfl (by decide) ?_
    refine lv_aload_n hx hb dLooker_lookAt_150 rfl (lv_at hl 0 rfl) ?_
    refine lv_iload_n hx hb dLooker_lookAt_151 rfl (lv_at hl 1 rfl) ?_
    refine lv_iconst (v := 0) hx hb dLooker_lookAt_152 (by decide) ?_
    refine lv_bipush (v := 8) hx hb dLooker_lookAt_153 (by decide) ?_
    refine mu_Vi (rest := []) S hC (fun q h => hA q (Nat.le_trans hS.1 h)) (fun q h => h) hS (k_Looker_leaf l γ A κ x1 0 8) meLooker_leaf qw_79469fc119 ⟨Nat.le_of_ble_eq_true rfl, Nat.le_of_ble_eq_true rfl⟩ (rv_8 hC hI) hI rfl hl.1 rfl (Nat.le_of_ble_eq_true rfl) dLooker_lookAt_155 ⟨Nat.le_refl _, Nat.le_refl _⟩ (fun r54 H locs ⟨hr54, hI⟩ hS _ _ => ?_)
    exact hE _ _ _ _ _ hS ⟨trivial, hI⟩ dLooker_lookAt_158
  by_cases k55 : r48 = 4
  · subst k55
    refine lv_tableIn (tgt := 159) hx hb dLooker_lookAt_16 (by decide) (by decide) rfl (by decide) ?_
    refine lv_aload_n hx hb dLooker_lookAt_159 rfl (lv_at hl 0 rfl) ?_
    refine lv_iload_n hx hb dLooker_lookAt_160 rfl (lv_at hl 1 rfl) ?_
    refine mu_Vi (rest := []) S hC (fun q h => hA q (Nat.le_trans hS.1 h)) (fun q h => h) hS (k_Looker_signs l γ A κ x1) meLooker_signs qw_530ab62a99 ⟨Nat.le_of_ble_eq_true rfl, Nat.le_of_ble_eq_true rfl⟩ (rv_8 hC hI) hI rfl hl.1 rfl (Nat.le_of_ble_eq_true rfl) dLooker_lookAt_161 ⟨Nat.le_refl _, Nat.le_refl _⟩ (fun r56 H locs ⟨hr56, hI⟩ hS _ _ => ?_)
    exact hE _ _ _ _ _ hS ⟨trivial, hI⟩ dLooker_lookAt_164
  by_cases k57 : r48 = 5
  · subst k57
    refine lv_tableIn (tgt := 271) hx hb dLooker_lookAt_16 (by decide) (by decide) rfl (by decide) ?_
    refine lv_bipush (v := 11) hx hb dLooker_lookAt_271 (by decide) ?_
    exact hE _ _ _ _ _ hS ⟨trivial, hI⟩ dLooker_lookAt_273
  by_cases k58 : r48 = 6
  · subst k58
    refine lv_tableIn (tgt := 271) hx hb dLooker_lookAt_16 (by decide) (by decide) rfl (by decide) ?_
    refine lv_bipush (v := 11) hx hb dLooker_lookAt_271 (by decide) ?_
    exact hE _ _ _ _ _ hS ⟨trivial, hI⟩ dLooker_lookAt_273
  by_cases k59 : r48 = 7
  · subst k59
    refine lv_tableIn (tgt := 271) hx hb dLooker_lookAt_16 (by decide) (by decide) rfl (by decide) ?_
    refine lv_bipush (v := 11) hx hb dLooker_lookAt_271 (by decide) ?_
    exact hE _ _ _ _ _ hS ⟨trivial, hI⟩ dLooker_lookAt_273
  by_cases k60 : r48 = 8
  · subst k60
    refine lv_tableIn (tgt := 271) hx hb dLooker_lookAt_16 (by decide) (by decide) rfl (by decide) ?_
    refine lv_bipush (v := 11) hx hb dLooker_lookAt_271 (by decide) ?_
    exact hE _ _ _ _ _ hS ⟨trivial, hI⟩ dLooker_lookAt_273
  by_cases k61 : r48 = 9
  · subst k61
    refine lv_tableIn (tgt := 271) hx hb dLooker_lookAt_16 (by decide) (by decide) rfl (by decide) ?_
    refine lv_bipush (v := 11) hx hb dLooker_lookAt_271 (by decide) ?_
    exact hE _ _ _ _ _ hS ⟨trivial, hI⟩ dLooker_lookAt_273
  by_cases k62 : r48 = 10
  · subst k62
    refine lv_tableIn (tgt := 271) hx hb dLooker_lookAt_16 (by decide) (by decide) rfl (by decide) ?_
    refine lv_bipush (v := 11) hx hb dLooker_lookAt_271 (by decide) ?_
    exact hE _ _ _ _ _ hS ⟨trivial, hI⟩ dLooker_lookAt_273
  by_cases k63 : r48 = 11
  · subst k63
    refine lv_tableIn (tgt := 271) hx hb dLooker_lookAt_16 (by decide) (by decide) rfl (by decide) ?_
    refine lv_bipush (v := 11) hx hb dLooker_lookAt_271 (by decide) ?_
    exact hE _ _ _ _ _ hS ⟨trivial, hI⟩ dLooker_lookAt_273
  by_cases k64 : r48 = 12
  · subst k64
    refine lv_tableIn (tgt := 271) hx hb dLooker_lookAt_16 (by decide) (by decide) rfl (by decide) ?_
    refine lv_bipush (v := 11) hx hb dLooker_lookAt_271 (by decide) ?_
    exact hE _ _ _ _ _ hS ⟨trivial, hI⟩ dLooker_lookAt_273
  by_cases k65 : r48 = 13
  · subst k65
    refine lv_tableIn (tgt := 271) hx hb dLooker_lookAt_16 (by decide) (by decide) rfl (by decide) ?_
    refine lv_bipush (v := 11) hx hb dLooker_lookAt_271 (by decide) ?_
    exact hE _ _ _ _ _ hS ⟨trivial, hI⟩ dLooker_lookAt_273
  by_cases k66 : r48 = 14
  · subst k66
    refine lv_tableIn (tgt := 271) hx hb dLooker_lookAt_16 (by decide) (by decide) rfl (by decide) ?_
    refine lv_bipush (v := 11) hx hb dLooker_lookAt_271 (by decide) ?_
    exact hE _ _ _ _ _ hS ⟨trivial, hI⟩ dLooker_lookAt_273
  by_cases k67 : r48 = 15
  · subst k67
    refine lv_tableIn (tgt := 271) hx hb dLooker_lookAt_16 (by decide) (by decide) rfl (by decide) ?_
    refine lv_bipush (v := 11) hx hb dLooker_lookAt_271 (by decide) ?_
    exact hE _ _ _ _ _ hS ⟨trivial, hI⟩ dLooker_lookAt_273
  by_cases k68 : r48 = 16
  · subst k68
    refine lv_tableIn (tgt := 271) hx hb dLooker_lookAt_16 (by decide) (by decide) rfl (by decide) ?_
    refine lv_bipush (v := 11) hx hb dLooker_lookAt_271 (by decide) ?_
    exact hE _ _ _ _ _ hS ⟨trivial, hI⟩ dLooker_lookAt_273
  by_cases k69 : r48 = 17
  · subst k69
    refine lv_tableIn (tgt := 271) hx hb dLooker_lookAt_16 (by decide) (by decide) rfl (by decide) ?_
    refine lv_bipush (v := 11) hx hb dLooker_lookAt_271 (by decide) ?_
    exact hE _ _ _ _ _ hS ⟨trivial, hI⟩ dLooker_lookAt_273
  by_cases k70 : r48 = 18
  · subst k70
    refine lv_tableIn (tgt := 271) hx hb dLooker_lookAt_16 (by decide) (by decide) rfl (by decide) ?_
    refine lv_bipush (v := 11) hx hb dLooker_lookAt_271 (by decide) ?_
    exact hE _ _ _ _ _ hS ⟨trivial, hI⟩ dLooker_lookAt_273
  by_cases k71 : r48 = 19
  · subst k71
    refine lv_tableIn (tgt := 271) hx hb dLooker_lookAt_16 (by decide) (by decide) rfl (by decide) ?_
    refine lv_bipush (v := 11) hx hb dLooker_lookAt_271 (by decide) ?_
    exact hE _ _ _ _ _ hS ⟨trivial, hI⟩ dLooker_lookAt_273
  by_cases k72 : r48 = 20
  · subst k72
    refine lv_tableIn (tgt := 165) hx hb dLooker_lookAt_16 (by decide) (by decide) rfl (by decide) ?_
    refine lv_aload_n hx hb dLooker_lookAt_165 rfl (lv_at hl 0 rfl) ?_
    refine lv_iload_n hx hb dLooker_lookAt_166 rfl (lv_at hl 1 rfl) ?_
    refine lv_iconst (v := 1) hx hb dLooker_lookAt_167 (by decide) ?_
    refine lv_iconst (v := 3) hx hb dLooker_lookAt_168 (by decide) ?_
    refine pu_Vi (rest := []) S hC (k_Looker_isOperator l γ A κ x1 1 3) meLooker_isOperator qw_818b7cddc8 ⟨Nat.le_of_ble_eq_true rfl, Nat.le_of_ble_eq_true rfl⟩ (rv_8 hC hI) hI rfl hl.1 rfl (Nat.le_of_ble_eq_true rfl) dLooker_lookAt_169 ⟨Nat.zero_le _, Nat.zero_le _⟩ (fun r73 hr73 => ?_)
    refine lv_if_eq (tgt := 197) hx hb dLooker_lookAt_172 (by decide) (fun c74 => ?_) (fun c74 => ?_)
    · refine lv_bipush (v := 11) hx hb dLooker_lookAt_197 (by decide) ?_
      exact hE _ _ _ _ _ hS ⟨trivial, hI⟩ dLooker_lookAt_199
    · refine lv_aload_n hx hb dLooker_lookAt_175 rfl (lv_at hl 0 rfl) ?_
      refine of_get S hC (of_8_4 hI) in_Looker rfl (by decide) qw_859ddf9a22 dLooker_lookAt_176 ?_
      refine lv_iload_n hx hb dLooker_lookAt_179 rfl (lv_at hl 1 rfl) ?_
      refine lv_aload_n hx hb dLooker_lookAt_180 rfl (lv_at hl 0 rfl) ?_
      refine of_get S hC (of_8_0 hI) in_Looker rfl (by decide) qw_22d2793f25 dLooker_lookAt_181 ?_
      refine lv_iload_n hx hb dLooker_lookAt_184 rfl (lv_at hl 1 rfl) ?_
      refine pu_Vi (rest := [.int x1, .ref (γ.2.2.2 11)]) S hC (k1_Trees_valueOf l γ A κ x1) meTrees_valueOf qw_ea9162cf9a ⟨Nat.le_of_ble_eq_true rfl, Nat.le_of_ble_eq_true rfl⟩ (rv_1 hC hI) hI rfl hl.1 rfl (Nat.le_of_ble_eq_true rfl) dLooker_lookAt_185 ⟨Nat.zero_le _, Nat.zero_le _⟩ (fun r75 hr75 => ?_)
      refine lv_iload_n hx hb dLooker_lookAt_188 rfl (lv_at hl 1 rfl) ?_
      refine lv_iconst (v := 1) hx hb dLooker_lookAt_189 (by decide) ?_
      refine lv_isub hx hb dLooker_lookAt_190 ?_
      refine lv_topi (fun v76 ev76 => ?_)
      refine mu_Vi (rest := []) S hC (fun q h => hA q (Nat.le_trans hS.1 h)) (fun q h => h) hS (k_Operators_unary l γ A κ x1 r75 v76) meOperators_unary qw_4f84b70a81 ⟨Nat.le_of_ble_eq_true rfl, Nat.le_of_ble_eq_true rfl⟩ (rv_11 hC hI) hI rfl hl.1 rfl (Nat.le_of_ble_eq_true rfl) dLooker_lookAt_191 ⟨Nat.le_refl _, Nat.le_refl _⟩ (fun r77 H locs ⟨hr77, hI⟩ hS _ _ => ?_)
      refine lv_goto (tgt := 199) hx hb dLooker_lookAt_194 (by decide) ?_
      exact hE _ _ _ _ _ hS ⟨trivial, hI⟩ dLooker_lookAt_199
  by_cases k78 : r48 = 21
  · subst k78
    refine lv_tableIn (tgt := 200) hx hb dLooker_lookAt_16 (by decide) (by decide) rfl (by decide) ?_
    refine lv_aload_n hx hb dLooker_lookAt_200 rfl (lv_at hl 0 rfl) ?_
    refine lv_iload_n hx hb dLooker_lookAt_201 rfl (lv_at hl 1 rfl) ?_
    refine lv_iconst (v := 2) hx hb dLooker_lookAt_202 (by decide) ?_
    refine lv_bipush (v := 20) hx hb dLooker_lookAt_203 (by decide) ?_
    refine pu_Vi (rest := []) S hC (k_Looker_isOperator l γ A κ x1 2 20) meLooker_isOperator qw_818b7cddc8 ⟨Nat.le_of_ble_eq_true rfl, Nat.le_of_ble_eq_true rfl⟩ (rv_8 hC hI) hI rfl hl.1 rfl (Nat.le_of_ble_eq_true rfl) dLooker_lookAt_205 ⟨Nat.zero_le _, Nat.zero_le _⟩ (fun r79 hr79 => ?_)
    refine lv_if_eq (tgt := 241) hx hb dLooker_lookAt_208 (by decide) (fun c80 => ?_) (fun c80 => ?_)
    · refine lv_bipush (v := 11) hx hb dLooker_lookAt_241 (by decide) ?_
      exact hE _ _ _ _ _ hS ⟨trivial, hI⟩ dLooker_lookAt_243
    · refine lv_aload_n hx hb dLooker_lookAt_211 rfl (lv_at hl 0 rfl) ?_
      refine of_get S hC (of_8_4 hI) in_Looker rfl (by decide) qw_859ddf9a22 dLooker_lookAt_212 ?_
      refine lv_iload_n hx hb dLooker_lookAt_215 rfl (lv_at hl 1 rfl) ?_
      refine lv_aload_n hx hb dLooker_lookAt_216 rfl (lv_at hl 0 rfl) ?_
      refine of_get S hC (of_8_0 hI) in_Looker rfl (by decide) qw_22d2793f25 dLooker_lookAt_217 ?_
      refine lv_iload_n hx hb dLooker_lookAt_220 rfl (lv_at hl 1 rfl) ?_
      refine pu_Vi (rest := [.int x1, .ref (γ.2.2.2 11)]) S hC (k1_Trees_valueOf l γ A κ x1) meTrees_valueOf qw_ea9162cf9a ⟨Nat.le_of_ble_eq_true rfl, Nat.le_of_ble_eq_true rfl⟩ (rv_1 hC hI) hI rfl hl.1 rfl (Nat.le_of_ble_eq_true rfl) dLooker_lookAt_221 ⟨Nat.zero_le _, Nat.zero_le _⟩ (fun r81 hr81 => ?_)
      refine lv_aload_n hx hb dLooker_lookAt_224 rfl (lv_at hl 0 rfl) ?_
      refine of_get S hC (of_8_0 hI) in_Looker rfl (by decide) qw_22d2793f25 dLooker_lookAt_225 ?_
      refine lv_iload_n hx hb dLooker_lookAt_228 rfl (lv_at hl 1 rfl) ?_
      refine pu_Vi (rest := [.int r81, .int x1, .ref (γ.2.2.2 11)]) S hC (k1_Trees_leftOfTwo l γ A κ x1) meTrees_leftOfTwo qw_844ff72d87 ⟨Nat.le_of_ble_eq_true rfl, Nat.le_of_ble_eq_true rfl⟩ (rv_1 hC hI) hI rfl hl.1 rfl (Nat.le_of_ble_eq_true rfl) dLooker_lookAt_229 ⟨Nat.zero_le _, Nat.zero_le _⟩ (fun r82 hr82 => ?_)
      refine lv_iload_n hx hb dLooker_lookAt_232 rfl (lv_at hl 1 rfl) ?_
      refine lv_iconst (v := 1) hx hb dLooker_lookAt_233 (by decide) ?_
      refine lv_isub hx hb dLooker_lookAt_234 ?_
      refine lv_topi (fun v83 ev83 => ?_)
      refine mu_Vi (rest := []) S hC (fun q h => hA q (Nat.le_trans hS.1 h)) (fun q h => h) hS (k_Operators_binary l γ A κ x1 r81 r82 v83) meOperators_binary qw_b6429af45c ⟨Nat.le_of_ble_eq_true rfl, Nat.le_of_ble_eq_true rfl⟩ (rv_11 hC hI) hI rfl hl.1 rfl (Nat.le_of_ble_eq_true rfl) dLooker_lookAt_235 ⟨Nat.le_refl _, Nat.le_refl _⟩ (fun r84 H locs ⟨hr84, hI⟩ hS _ _ => ?_)
      refine lv_goto (tgt := 243) hx hb dLooker_lookAt_238 (by decide) ?_
      exact hE _ _ _ _ _ hS ⟨trivial, hI⟩ dLooker_lookAt_243
  by_cases k85 : r48 = 22
  · subst k85
    refine lv_tableIn (tgt := 244) hx hb dLooker_lookAt_16 (by decide) (by decide) rfl (by decide) ?_
    refine lv_aload_n hx hb dLooker_lookAt_244 rfl (lv_at hl 0 rfl) ?_
    refine of_get S hC (of_8_5 hI) in_Looker rfl (by decide) qw_3b1b00c0af dLooker_lookAt_245 ?_
    refine lv_iload_n hx hb dLooker_lookAt_248 rfl (lv_at hl 1 rfl) ?_
    refine mu_Vi (rest := []) S hC (fun q h => hA q (Nat.le_trans hS.1 h)) (fun q h => h) hS (k_Meanings_apply l γ A κ x1) meMeanings_apply qw_ad354f94c6 ⟨Nat.le_of_ble_eq_true rfl, Nat.le_of_ble_eq_true rfl⟩ (rv_12 hC hI) hI rfl hl.1 rfl (Nat.le_of_ble_eq_true rfl) dLooker_lookAt_249 ⟨Nat.le_refl _, Nat.le_refl _⟩ (fun r86 H locs ⟨hr86, hI⟩ hS _ _ => ?_)
    exact hE _ _ _ _ _ hS ⟨trivial, hI⟩ dLooker_lookAt_252
  by_cases k87 : r48 = 23
  · subst k87
    refine lv_tableIn (tgt := 253) hx hb dLooker_lookAt_16 (by decide) (by decide) rfl (by decide) ?_
    refine lv_aload_n hx hb dLooker_lookAt_253 rfl (lv_at hl 0 rfl) ?_
    refine of_get S hC (of_8_5 hI) in_Looker rfl (by decide) qw_3b1b00c0af dLooker_lookAt_254 ?_
    refine lv_iload_n hx hb dLooker_lookAt_257 rfl (lv_at hl 1 rfl) ?_
    refine mu_Vi (rest := []) S hC (fun q h => hA q (Nat.le_trans hS.1 h)) (fun q h => h) hS (k_Meanings_slice l γ A κ x1) meMeanings_slice qw_ee93ba46af ⟨Nat.le_of_ble_eq_true rfl, Nat.le_of_ble_eq_true rfl⟩ (rv_12 hC hI) hI rfl hl.1 rfl (Nat.le_of_ble_eq_true rfl) dLooker_lookAt_258 ⟨Nat.le_refl _, Nat.le_refl _⟩ (fun r88 H locs ⟨hr88, hI⟩ hS _ _ => ?_)
    exact hE _ _ _ _ _ hS ⟨trivial, hI⟩ dLooker_lookAt_261
  by_cases k89 : r48 = 24
  · subst k89
    refine lv_tableIn (tgt := 253) hx hb dLooker_lookAt_16 (by decide) (by decide) rfl (by decide) ?_
    refine lv_aload_n hx hb dLooker_lookAt_253 rfl (lv_at hl 0 rfl) ?_
    refine of_get S hC (of_8_5 hI) in_Looker rfl (by decide) qw_3b1b00c0af dLooker_lookAt_254 ?_
    refine lv_iload_n hx hb dLooker_lookAt_257 rfl (lv_at hl 1 rfl) ?_
    refine mu_Vi (rest := []) S hC (fun q h => hA q (Nat.le_trans hS.1 h)) (fun q h => h) hS (k_Meanings_slice l γ A κ x1) meMeanings_slice qw_ee93ba46af ⟨Nat.le_of_ble_eq_true rfl, Nat.le_of_ble_eq_true rfl⟩ (rv_12 hC hI) hI rfl hl.1 rfl (Nat.le_of_ble_eq_true rfl) dLooker_lookAt_258 ⟨Nat.le_refl _, Nat.le_refl _⟩ (fun r90 H locs ⟨hr90, hI⟩ hS _ _ => ?_)
    exact hE _ _ _ _ _ hS ⟨trivial, hI⟩ dLooker_lookAt_261
  by_cases k91 : r48 = 25
  · subst k91
    refine lv_tableIn (tgt := 262) hx hb dLooker_lookAt_16 (by decide) (by decide) rfl (by decide) ?_
    refine lv_aload_n hx hb dLooker_lookAt_262 rfl (lv_at hl 0 rfl) ?_
    refine of_get S hC (of_8_5 hI) in_Looker rfl (by decide) qw_3b1b00c0af dLooker_lookAt_263 ?_
    refine lv_iload_n hx hb dLooker_lookAt_266 rfl (lv_at hl 1 rfl) ?_
    refine mu_Vi (rest := []) S hC (fun q h => hA q (Nat.le_trans hS.1 h)) (fun q h => h) hS (k_Meanings_attribute l γ A κ x1) meMeanings_attribute qw_19aeb78c12 ⟨Nat.le_of_ble_eq_true rfl, Nat.le_of_ble_eq_true rfl⟩ (rv_12 hC hI) hI rfl hl.1 rfl (Nat.le_of_ble_eq_true rfl) dLooker_lookAt_267 ⟨Nat.le_refl _, Nat.le_refl _⟩ (fun r92 H locs ⟨hr92, hI⟩ hS _ _ => ?_)
    exact hE _ _ _ _ _ hS ⟨trivial, hI⟩ dLooker_lookAt_270
  refine lv_tableOut (tgt := 271) hx hb dLooker_lookAt_16 (by have qk49 := lv_neT (a := 1) k49 (by decide); have qk51 := lv_neT (a := 2) k51 (by decide); have qk53 := lv_neT (a := 3) k53 (by decide); have qk55 := lv_neT (a := 4) k55 (by decide); have qk57 := lv_neT (a := 5) k57 (by decide); have qk58 := lv_neT (a := 6) k58 (by decide); have qk59 := lv_neT (a := 7) k59 (by decide); have qk60 := lv_neT (a := 8) k60 (by decide); have qk61 := lv_neT (a := 9) k61 (by decide); have qk62 := lv_neT (a := 10) k62 (by decide); have qk63 := lv_neT (a := 11) k63 (by decide); have qk64 := lv_neT (a := 12) k64 (by decide); have qk65 := lv_neT (a := 13) k65 (by decide); have qk66 := lv_neT (a := 14) k66 (by decide); have qk67 := lv_neT (a := 15) k67 (by decide); have qk68 := lv_neT (a := 16) k68 (by decide); have qk69 := lv_neT (a := 17) k69 (by decide); have qk70 := lv_neT (a := 18) k70 (by decide); have qk71 := lv_neT (a := 19) k71 (by decide); have qk72 := lv_neT (a := 20) k72 (by decide); have qk78 := lv_neT (a := 21) k78 (by decide); have qk85 := lv_neT (a := 22) k85 (by decide); have qk87 := lv_neT (a := 23) k87 (by decide); have qk89 := lv_neT (a := 24) k89 (by decide); have qk91 := lv_neT (a := 25) k91 (by decide); omega) (by decide) ?_
  refine lv_bipush (v := 11) hx hb dLooker_lookAt_271 (by decide) ?_
  exact hE _ _ _ _ _ hS ⟨trivial, hI⟩ dLooker_lookAt_273

set_option maxHeartbeats 4000000 in
set_option maxRecDepth 100000 in
theorem k6_Looks_copy (l : Launch) (γ : gE) (A : Nat → Prop) (κ : Nat → Nat) (x2 : Int32) : MU l yLooks_copy bLooks_copy 3 (none) 2 83 0 0 [.ref (γ.2.2.2 6), .ref (γ.2.2.2 9), .int x2] γ A (INV γ A κ) (mQv (fun H => INV γ A κ H) A) := by
  refine mu_openV (by decide) (Nat.le_of_ble_eq_true rfl) ?_
  intro p e s m args below meth c ls Q S hnm hC hA hI hE hl
  obtain ⟨hx, hb, hml, hown, hW⟩ := id S
  have hS : va_S A s.heap s.heap [] := va_S.rf
  have hl : lv_has ls 3 [(0, .ref (γ.2.2.2 6)), (1, .ref (γ.2.2.2 9)), (2, .int x2)] := hl
  refine lv_aload_n hx hb dLooks_copy_0 rfl (lv_at hl 0 rfl) ?_
  refine lv_iload_n hx hb dLooks_copy_1 rfl (lv_at hl 2 rfl) ?_
  refine lv_aload_n hx hb dLooks_copy_2 rfl (lv_at hl 1 rfl) ?_
  refine lv_iload_n hx hb dLooks_copy_3 rfl (lv_at hl 2 rfl) ?_
  refine pu_Vi (rest := [.int x2, .ref (γ.2.2.2 6)]) S hC (k9_Looks_classOf l γ A κ x2) meLooks_classOf qw_afa922b076 ⟨Nat.le_of_ble_eq_true rfl, Nat.le_of_ble_eq_true rfl⟩ (rv_9 hC hI) hI rfl hl.1 rfl (Nat.le_of_ble_eq_true rfl) dLooks_copy_4 ⟨Nat.zero_le _, Nat.zero_le _⟩ (fun r10 hr10 => ?_)
  refine lv_aload_n hx hb dLooks_copy_7 rfl (lv_at hl 1 rfl) ?_
  refine lv_iload_n hx hb dLooks_copy_8 rfl (lv_at hl 2 rfl) ?_
  refine pu_Vi (rest := [.int r10, .int x2, .ref (γ.2.2.2 6)]) S hC (k9_Looks_extentOf l γ A κ x2) meLooks_extentOf qw_76af360b84 ⟨Nat.le_of_ble_eq_true rfl, Nat.le_of_ble_eq_true rfl⟩ (rv_9 hC hI) hI rfl hl.1 rfl (Nat.le_of_ble_eq_true rfl) dLooks_copy_9 ⟨Nat.zero_le _, Nat.zero_le _⟩ (fun r11 hr11 => ?_)
  refine lv_aload_n hx hb dLooks_copy_12 rfl (lv_at hl 1 rfl) ?_
  refine lv_iload_n hx hb dLooks_copy_13 rfl (lv_at hl 2 rfl) ?_
  refine pu_Vi (rest := [.int r11, .int r10, .int x2, .ref (γ.2.2.2 6)]) S hC (k9_Looks_isFixed l γ A κ x2) meLooks_isFixed qw_baacda067f ⟨Nat.le_of_ble_eq_true rfl, Nat.le_of_ble_eq_true rfl⟩ (rv_9 hC hI) hI rfl hl.1 rfl (Nat.le_of_ble_eq_true rfl) dLooks_copy_14 ⟨Nat.zero_le _, Nat.zero_le _⟩ (fun r12 hr12 => ?_)
  refine mu_Vv (rest := []) S hC (fun q h => hA q (Nat.le_trans hS.1 h)) (fun q h => h) hS (k6_Looks_note l γ A κ x2 r10 r11 r12) meLooks_note qw_a636540c8a ⟨Nat.le_of_ble_eq_true rfl, Nat.le_of_ble_eq_true rfl⟩ (rv_6 hC hI) hI rfl hl.1 rfl (Nat.le_of_ble_eq_true rfl) dLooks_copy_17 ⟨Nat.le_refl _, Nat.le_refl _⟩ (fun H locs hI hS _ _ => ?_)
  refine lv_aload_n hx hb dLooks_copy_20 rfl (lv_at hl 0 rfl) ?_
  refine lv_iload_n hx hb dLooks_copy_21 rfl (lv_at hl 2 rfl) ?_
  refine lv_aload_n hx hb dLooks_copy_22 rfl (lv_at hl 1 rfl) ?_
  refine lv_iload_n hx hb dLooks_copy_23 rfl (lv_at hl 2 rfl) ?_
  refine pu_Vi (rest := [.int x2, .ref (γ.2.2.2 6)]) S hC (k9_Looks_meaningOf l γ A κ x2) meLooks_meaningOf qw_95efa8fed5 ⟨Nat.le_of_ble_eq_true rfl, Nat.le_of_ble_eq_true rfl⟩ (rv_9 hC hI) hI rfl hl.1 rfl (Nat.le_of_ble_eq_true rfl) dLooks_copy_24 ⟨Nat.zero_le _, Nat.zero_le _⟩ (fun r14 hr14 => ?_)
  refine mu_Vv (rest := []) S hC (fun q h => hA q (Nat.le_trans hS.1 h)) (fun q h => h) hS (k6_Looks_setMeaning l γ A κ x2 r14) meLooks_setMeaning qw_fccdde971d ⟨Nat.le_of_ble_eq_true rfl, Nat.le_of_ble_eq_true rfl⟩ (rv_6 hC hI) hI rfl hl.1 rfl (Nat.le_of_ble_eq_true rfl) dLooks_copy_27 ⟨Nat.le_refl _, Nat.le_refl _⟩ (fun H locs hI hS _ _ => ?_)
  refine lv_aload_n hx hb dLooks_copy_30 rfl (lv_at hl 0 rfl) ?_
  refine lv_iload_n hx hb dLooks_copy_31 rfl (lv_at hl 2 rfl) ?_
  refine lv_aload_n hx hb dLooks_copy_32 rfl (lv_at hl 1 rfl) ?_
  refine lv_iload_n hx hb dLooks_copy_33 rfl (lv_at hl 2 rfl) ?_
  refine pu_Vi (rest := [.int x2, .ref (γ.2.2.2 6)]) S hC (k9_Looks_numberOf l γ A κ x2) meLooks_numberOf qw_dce361ad2f ⟨Nat.le_of_ble_eq_true rfl, Nat.le_of_ble_eq_true rfl⟩ (rv_9 hC hI) hI rfl hl.1 rfl (Nat.le_of_ble_eq_true rfl) dLooks_copy_34 ⟨Nat.zero_le _, Nat.zero_le _⟩ (fun r16 hr16 => ?_)
  refine mu_Vv (rest := []) S hC (fun q h => hA q (Nat.le_trans hS.1 h)) (fun q h => h) hS (k6_Looks_setNumber l γ A κ x2 r16) meLooks_setNumber qw_58cf4eec0a ⟨Nat.le_of_ble_eq_true rfl, Nat.le_of_ble_eq_true rfl⟩ (rv_6 hC hI) hI rfl hl.1 rfl (Nat.le_of_ble_eq_true rfl) dLooks_copy_37 ⟨Nat.le_refl _, Nat.le_refl _⟩ (fun H locs hI hS _ _ => ?_)
  refine lv_aload_n hx hb dLooks_copy_40 rfl (lv_at hl 0 rfl) ?_
  refine of_get S hC (of_6_5 hI) in_Looks rfl (by decide) qw_50f3c1330a dLooks_copy_41 ?_
  refine lv_iload_n hx hb dLooks_copy_44 rfl (lv_at hl 2 rfl) ?_
  refine lv_aload_n hx hb dLooks_copy_45 rfl (lv_at hl 1 rfl) ?_
  refine of_get S hC (of_9_5 hI) in_Looks rfl (by decide) qw_50f3c1330a dLooks_copy_46 ?_
  refine lv_iload_n hx hb dLooks_copy_49 rfl (lv_at hl 2 rfl) ?_
  refine mu_Vv (rest := []) S hC (fun q h => hA q (Nat.le_trans hS.1 h)) (fun q h => h) hS (k7_Rows_copy l γ A κ x2 x2) meRows_copy qw_4050b11111 ⟨Nat.le_of_ble_eq_true rfl, Nat.le_of_ble_eq_true rfl⟩ (rv_7 hC hI) hI rfl hl.1 rfl (Nat.le_of_ble_eq_true rfl) dLooks_copy_50 ⟨Nat.le_refl _, Nat.le_refl _⟩ (fun H locs hI hS _ _ => ?_)
  exact hE _ _ _ _ hS hI dLooks_copy_53

set_option maxHeartbeats 4000000 in
set_option maxRecDepth 100000 in
theorem k_Objects_keep (l : Launch) (γ : gE) (A : Nat → Prop) (κ : Nat → Nat) (x1 : Int32) (x3 : Int32) : MU l yObjects_keep bObjects_keep 4 (none) 2 83 0 0 [.ref (γ.2.2.2 4), .int x1, .ref (γ.2.2.2 6), .int x3] γ A (INV γ A κ) (mQv (fun H => INV γ A κ H) A) := by
  refine mu_openV (by decide) (Nat.le_of_ble_eq_true rfl) ?_
  intro p e s m args below meth c ls Q S hnm hC hA hI hE hl
  obtain ⟨hx, hb, hml, hown, hW⟩ := id S
  have hS : va_S A s.heap s.heap [] := va_S.rf
  have hl : lv_has ls 4 [(0, .ref (γ.2.2.2 4)), (1, .int x1), (2, .ref (γ.2.2.2 6)), (3, .int x3)] := hl
  refine lv_aload_n hx hb dObjects_keep_0 rfl (lv_at hl 0 rfl) ?_
  refine lv_iload_n hx hb dObjects_keep_1 rfl (lv_at hl 1 rfl) ?_
  refine pu_Vi (rest := []) S hC (k4_Objects_has l γ A κ x1) meObjects_has qw_2f2cb5cb5a ⟨Nat.le_of_ble_eq_true rfl, Nat.le_of_ble_eq_true rfl⟩ (rv_4 hC hI) hI rfl hl.1 rfl (Nat.le_of_ble_eq_true rfl) dObjects_keep_2 ⟨Nat.zero_le _, Nat.zero_le _⟩ (fun r6 hr6 => ?_)
  refine lv_if_eq (tgt := 32) hx hb dObjects_keep_5 (by decide) (fun c7 => ?_) (fun c7 => ?_)
  · exact hE _ _ _ _ hS hI dObjects_keep_32
  · refine lv_aload_n hx hb dObjects_keep_8 rfl (lv_at hl 0 rfl) ?_
    obtain ⟨b8, hOb8⟩ := of_4_2 hI
    refine of_get S hC hOb8 in_Objects rfl (by decide) qw_0ed5786ef0 dObjects_keep_9 ?_
    refine lv_iload_n hx hb dObjects_keep_12 rfl (lv_at hl 1 rfl) ?_
    refine lv_aload_n hx hb dObjects_keep_13 rfl (lv_at hl 2 rfl) ?_
    refine lv_iload_n hx hb dObjects_keep_14 rfl (lv_at hl 3 rfl) ?_
    refine pu_Vi (rest := [.int x1, .ref b8]) S hC (k6_Looks_numberOf l γ A κ x3) meLooks_numberOf qw_ce0ad21609 ⟨Nat.le_of_ble_eq_true rfl, Nat.le_of_ble_eq_true rfl⟩ (rv_6 hC hI) hI rfl hl.1 rfl (Nat.le_of_ble_eq_true rfl) dObjects_keep_15 ⟨Nat.zero_le _, Nat.zero_le _⟩ (fun r9 hr9 => ?_)
    refine iv_onum S hC hI (fun q h => hA q (Nat.le_trans hS.1 h)) hS hOb8 (by assumption) (by assumption) dObjects_keep_18 (fun H locs hI hS => ?_)
    refine lv_aload_n hx hb dObjects_keep_19 rfl (lv_at hl 0 rfl) ?_
    refine of_get S hC (of_4_3 hI) in_Objects rfl (by decide) qw_f4aeeaf054 dObjects_keep_20 ?_
    refine lv_iload_n hx hb dObjects_keep_23 rfl (lv_at hl 1 rfl) ?_
    refine lv_aload_n hx hb dObjects_keep_24 rfl (lv_at hl 2 rfl) ?_
    refine of_getN S hC (of_6_5 hI) in_Looks rfl (by decide) qn_d9aceef3ce dObjects_keep_25 ?_
    refine lv_iload_n hx hb dObjects_keep_28 rfl (lv_at hl 3 rfl) ?_
    refine mu_Vv (rest := []) S hC (fun q h => hA q (Nat.le_trans hS.1 h)) (fun q h => h) hS (k5_Rows_copy l γ A κ x1 x3) meRows_copy qw_d8c0d69073 ⟨Nat.le_of_ble_eq_true rfl, Nat.le_of_ble_eq_true rfl⟩ (rv_5 hC hI) hI rfl hl.1 rfl (Nat.le_of_ble_eq_true rfl) dObjects_keep_29 ⟨Nat.le_refl _, Nat.le_refl _⟩ (fun H locs hI hS _ _ => ?_)
    exact hE _ _ _ _ hS hI dObjects_keep_32

set_option maxHeartbeats 4000000 in
set_option maxRecDepth 100000 in
theorem k_Looker_hideBelowAttributes (l : Launch) (γ : gE) (A : Nat → Prop) (κ : Nat → Nat) (x1 : Int32) : MU l yLooker_hideBelowAttributes bLooker_hideBelowAttributes 4 (none) 2 42 0 0 [.ref (γ.2.2.2 8), .int x1] γ A (INV γ A κ) (mQv (fun H => INV γ A κ H) A) := by
  refine mu_openV (by decide) (Nat.le_of_ble_eq_true rfl) ?_
  intro p e s m args below meth c ls Q S hnm hC hA hI hE hl
  obtain ⟨hx, hb, hml, hown, hW⟩ := id S
  have hS : va_S A s.heap s.heap [] := va_S.rf
  have hl : lv_has ls 4 [(0, .ref (γ.2.2.2 8)), (1, .int x1)] := hl
  have J6 : ∀ (N6 : Nat) (ls : Array Slot) (H : Heap) (locs : List Loc) (i1 : Int32) (i2 : Int32) (i3 : Int32), INV γ A κ H → va_S A s.heap H locs → (i3.toInt + 2147483648).toNat = N6 → lv_has ls 4 [(0, .ref (γ.2.2.2 8)), (1, .int i1), (2, .int i2), (3, .int i3)] → W p l e (bs_rm 2 0 0 42) s m args below meth c H locs 0 0 Q (F0 m 6 ls []) := by
    intro N6
    induction N6 using Nat.strongRecOn with
    | ind N6 ih6 =>
      intro ls H locs i1 i2 i3 hI hS hm6 hl
      have J70 : ∀ (ls : Array Slot) (H : Heap) (locs : List Loc) (i1 : Int32) (i2 : Int32) (i3 : Int32), INV γ A κ H → va_S A s.heap H locs → (-2147483648 < i3.toInt ∧ (i3.toInt + 2147483648).toNat = N6) → lv_has ls 4 [(0, .ref (γ.2.2.2 8)), (1, .int i1), (2, .int i2), (3, .int i3)] → W p l e (bs_rm 2 0 0 42) s m args below meth c H locs 0 0 Q (F0 m 70 ls []) := by
        intro ls H locs i1 i2 i3 hI hS ⟨hf6a, hf6b⟩ hl
        obtain ⟨v18, ev18⟩ : ∃ y : Int32, y = i3 + (-1) := ⟨_, rfl⟩
        refine lv_iinc (v := v18) (lv' := [(3, .int v18), (0, .ref (γ.2.2.2 8)), (1, .int i1), (2, .int i2)]) hx hb dLooker_hideBelowAttributes_70 hl (k := 3) rfl (by rw [ev18]; rfl) (by decide) rfl (fun ls hl => ?_)
        refine lv_goto (tgt := 6) hx hb dLooker_hideBelowAttributes_73 (by decide) ?_
        exact ih6 _ (by have q1 : -2147483648 < i3.toInt := (by first | assumption | omega); have q2 := mu_dn q1; rw [← ev18] at q2; omega) ls _ _ i1 i2 v18 hI hS rfl (lv_sub hl [1, 2, 3, 0] rfl)
      refine lv_iload_n hx hb dLooker_hideBelowAttributes_6 rfl (lv_at hl 3 rfl) ?_
      refine lv_aload_n hx hb dLooker_hideBelowAttributes_7 rfl (lv_at hl 0 rfl) ?_
      refine of_get S hC (of_8_0 hI) in_Looker rfl (by decide) qw_22d2793f25 dLooker_hideBelowAttributes_8 ?_
      refine lv_iload_n hx hb dLooker_hideBelowAttributes_11 rfl (lv_at hl 1 rfl) ?_
      refine pu_Vi (rest := [.int i3]) S hC (k1_Trees_firstOf l γ A κ i1) meTrees_firstOf qw_b381ab4f95 ⟨Nat.le_of_ble_eq_true rfl, Nat.le_of_ble_eq_true rfl⟩ (rv_1 hC hI) hI rfl hl.1 rfl (Nat.le_of_ble_eq_true rfl) dLooker_hideBelowAttributes_12 ⟨Nat.zero_le _, Nat.zero_le _⟩ (fun r19 hr19 => ?_)
      refine lv_icmp_lt (tgt := 76) hx hb dLooker_hideBelowAttributes_15 (by decide) (fun c20 => ?_) (fun c20 => ?_)
      · exact hE _ _ _ _ hS hI dLooker_hideBelowAttributes_76
      · have hge : ¬ i3 < 0 := md_ge (by assumption) (by assumption)
        have hge2 := md_int hge
        refine lv_iload_n hx hb dLooker_hideBelowAttributes_18 rfl (lv_at hl 3 rfl) ?_
        refine lv_aload_n hx hb dLooker_hideBelowAttributes_19 rfl (lv_at hl 0 rfl) ?_
        obtain ⟨b21, hOb21⟩ := of_8_6 hI
        refine of_get S hC hOb21 in_Looker rfl (by decide) qw_899a0812ea dLooker_hideBelowAttributes_20 ?_
        refine iv_hlen S hC hI hOb21 dLooker_hideBelowAttributes_23 ?_
        refine lv_topi (fun v22 ev22 => ?_)
        refine lv_icmp_ge (tgt := 76) hx hb dLooker_hideBelowAttributes_24 (by decide) (fun c23 => ?_) (fun c23 => ?_)
        · exact hE _ _ _ _ hS hI dLooker_hideBelowAttributes_76
        · have hinh : vp_in i3 (κ 15) := in_cmp2 hge (by assumption) (by assumption) (inv_15 hI)
          refine lv_aload_n hx hb dLooker_hideBelowAttributes_27 rfl (lv_at hl 0 rfl) ?_
          obtain ⟨b24, hOb24⟩ := of_8_6 hI
          refine of_get S hC hOb24 in_Looker rfl (by decide) qw_899a0812ea dLooker_hideBelowAttributes_28 ?_
          refine lv_iload_n hx hb dLooker_hideBelowAttributes_31 rfl (lv_at hl 3 rfl) ?_
          refine lv_iload_n hx hb dLooker_hideBelowAttributes_32 rfl (lv_at hl 3 rfl) ?_
          refine lv_iload_n hx hb dLooker_hideBelowAttributes_33 rfl (lv_at hl 2 rfl) ?_
          refine lv_icmp_lt (tgt := 41) hx hb dLooker_hideBelowAttributes_34 (by decide) (fun c25 => ?_) (fun c25 => ?_)
          · refine lv_iconst (v := 0) hx hb dLooker_hideBelowAttributes_41 (by decide) ?_
            refine iv_hid S hC hI (fun q h => hA q (Nat.le_trans hS.1 h)) hS hOb24 hinh dLooker_hideBelowAttributes_42 (fun H locs hI hS => ?_)
            refine lv_iload_n hx hb dLooker_hideBelowAttributes_43 rfl (lv_at hl 3 rfl) ?_
            refine lv_iload_n hx hb dLooker_hideBelowAttributes_44 rfl (lv_at hl 2 rfl) ?_
            refine lv_icmp_ge (tgt := 70) hx hb dLooker_hideBelowAttributes_45 (by decide) (fun c26 => ?_) (fun c26 => ?_)
            · exact J70 ls _ _ i1 i2 i3 hI hS (by first | exact ⟨(mu_up (k := i3) (by assumption)).2, by assumption⟩ | exact ⟨by assumption, by assumption⟩) (lv_sub hl [0, 1, 2, 3] rfl)
            · refine lv_aload_n hx hb dLooker_hideBelowAttributes_48 rfl (lv_at hl 0 rfl) ?_
              refine of_get S hC (of_8_0 hI) in_Looker rfl (by decide) qw_22d2793f25 dLooker_hideBelowAttributes_49 ?_
              refine lv_iload_n hx hb dLooker_hideBelowAttributes_52 rfl (lv_at hl 3 rfl) ?_
              refine pu_Vi (rest := []) S hC (k1_Trees_kindOf l γ A κ i3) meTrees_kindOf qw_f48a4a6aed ⟨Nat.le_of_ble_eq_true rfl, Nat.le_of_ble_eq_true rfl⟩ (rv_1 hC hI) hI rfl hl.1 rfl (Nat.le_of_ble_eq_true rfl) dLooker_hideBelowAttributes_53 ⟨Nat.zero_le _, Nat.zero_le _⟩ (fun r27 hr27 => ?_)
              refine lv_bipush (v := 25) hx hb dLooker_hideBelowAttributes_56 (by decide) ?_
              refine lv_icmp_ne (tgt := 70) hx hb dLooker_hideBelowAttributes_58 (by decide) (fun c28 => ?_) (fun c28 => ?_)
              · exact J70 ls _ _ i1 i2 i3 hI hS (by first | exact ⟨(mu_up (k := i3) (by assumption)).2, by assumption⟩ | exact ⟨by assumption, by assumption⟩) (lv_sub hl [0, 1, 2, 3] rfl)
              · refine lv_aload_n hx hb dLooker_hideBelowAttributes_61 rfl (lv_at hl 0 rfl) ?_
                refine of_get S hC (of_8_0 hI) in_Looker rfl (by decide) qw_22d2793f25 dLooker_hideBelowAttributes_62 ?_
                refine lv_iload_n hx hb dLooker_hideBelowAttributes_65 rfl (lv_at hl 3 rfl) ?_
                refine pu_Vi (rest := []) S hC (k1_Trees_firstOf l γ A κ i3) meTrees_firstOf qw_b381ab4f95 ⟨Nat.le_of_ble_eq_true rfl, Nat.le_of_ble_eq_true rfl⟩ (rv_1 hC hI) hI rfl hl.1 rfl (Nat.le_of_ble_eq_true rfl) dLooker_hideBelowAttributes_66 ⟨Nat.zero_le _, Nat.zero_le _⟩ (fun r29 hr29 => ?_)
                refine lv_istore_n (lv' := [(2, .int r29), (0, .ref (γ.2.2.2 8)), (1, .int i1), (3, .int i3)]) hx hb dLooker_hideBelowAttributes_69 rfl hl (by decide) rfl (fun ls hl => ?_)
                exact J70 ls _ _ i1 r29 i3 hI hS (by first | exact ⟨(mu_up (k := i3) (by assumption)).2, by assumption⟩ | exact ⟨by assumption, by assumption⟩) (lv_sub hl [1, 2, 0, 3] rfl)
          · refine lv_iconst (v := 1) hx hb dLooker_hideBelowAttributes_37 (by decide) ?_
            refine lv_goto (tgt := 42) hx hb dLooker_hideBelowAttributes_38 (by decide) ?_
            refine iv_hid S hC hI (fun q h => hA q (Nat.le_trans hS.1 h)) hS hOb24 hinh dLooker_hideBelowAttributes_42 (fun H locs hI hS => ?_)
            refine lv_iload_n hx hb dLooker_hideBelowAttributes_43 rfl (lv_at hl 3 rfl) ?_
            refine lv_iload_n hx hb dLooker_hideBelowAttributes_44 rfl (lv_at hl 2 rfl) ?_
            refine lv_icmp_ge (tgt := 70) hx hb dLooker_hideBelowAttributes_45 (by decide) (fun c30 => ?_) (fun c30 => ?_)
            · exact J70 ls _ _ i1 i2 i3 hI hS (by first | exact ⟨(mu_up (k := i3) (by assumption)).2, by assumption⟩ | exact ⟨by assumption, by assumption⟩) (lv_sub hl [0, 1, 2, 3] rfl)
            · refine lv_aload_n hx hb dLooker_hideBelowAttributes_48 rfl (lv_at hl 0 rfl) ?_
              refine of_get S hC (of_8_0 hI) in_Looker rfl (by decide) qw_22d2793f25 dLooker_hideBelowAttributes_49 ?_
              refine lv_iload_n hx hb dLooker_hideBelowAttributes_52 rfl (lv_at hl 3 rfl) ?_
              refine pu_Vi (rest := []) S hC (k1_Trees_kindOf l γ A κ i3) meTrees_kindOf qw_f48a4a6aed ⟨Nat.le_of_ble_eq_true rfl, Nat.le_of_ble_eq_true rfl⟩ (rv_1 hC hI) hI rfl hl.1 rfl (Nat.le_of_ble_eq_true rfl) dLooker_hideBelowAttributes_53 ⟨Nat.zero_le _, Nat.zero_le _⟩ (fun r31 hr31 => ?_)
              refine lv_bipush (v := 25) hx hb dLooker_hideBelowAttributes_56 (by decide) ?_
              refine lv_icmp_ne (tgt := 70) hx hb dLooker_hideBelowAttributes_58 (by decide) (fun c32 => ?_) (fun c32 => ?_)
              · exact J70 ls _ _ i1 i2 i3 hI hS (by first | exact ⟨(mu_up (k := i3) (by assumption)).2, by assumption⟩ | exact ⟨by assumption, by assumption⟩) (lv_sub hl [0, 1, 2, 3] rfl)
              · refine lv_aload_n hx hb dLooker_hideBelowAttributes_61 rfl (lv_at hl 0 rfl) ?_
                refine of_get S hC (of_8_0 hI) in_Looker rfl (by decide) qw_22d2793f25 dLooker_hideBelowAttributes_62 ?_
                refine lv_iload_n hx hb dLooker_hideBelowAttributes_65 rfl (lv_at hl 3 rfl) ?_
                refine pu_Vi (rest := []) S hC (k1_Trees_firstOf l γ A κ i3) meTrees_firstOf qw_b381ab4f95 ⟨Nat.le_of_ble_eq_true rfl, Nat.le_of_ble_eq_true rfl⟩ (rv_1 hC hI) hI rfl hl.1 rfl (Nat.le_of_ble_eq_true rfl) dLooker_hideBelowAttributes_66 ⟨Nat.zero_le _, Nat.zero_le _⟩ (fun r33 hr33 => ?_)
                refine lv_istore_n (lv' := [(2, .int r33), (0, .ref (γ.2.2.2 8)), (1, .int i1), (3, .int i3)]) hx hb dLooker_hideBelowAttributes_69 rfl hl (by decide) rfl (fun ls hl => ?_)
                exact J70 ls _ _ i1 r33 i3 hI hS (by first | exact ⟨(mu_up (k := i3) (by assumption)).2, by assumption⟩ | exact ⟨by assumption, by assumption⟩) (lv_sub hl [1, 2, 0, 3] rfl)
  refine lv_iload_n hx hb dLooker_hideBelowAttributes_0 rfl (lv_at hl 1 rfl) ?_
  refine lv_iconst (v := 1) hx hb dLooker_hideBelowAttributes_1 (by decide) ?_
  refine lv_iadd hx hb dLooker_hideBelowAttributes_2 ?_
  refine lv_topi (fun v34 ev34 => ?_)
  refine lv_istore_n (lv' := [(2, .int v34), (0, .ref (γ.2.2.2 8)), (1, .int x1)]) hx hb dLooker_hideBelowAttributes_3 rfl hl (by decide) rfl (fun ls hl => ?_)
  refine lv_iload_n hx hb dLooker_hideBelowAttributes_4 rfl (lv_at hl 2 rfl) ?_
  refine lv_istore_n (lv' := [(3, .int x1), (2, .int v34), (0, .ref (γ.2.2.2 8)), (1, .int x1)]) hx hb dLooker_hideBelowAttributes_5 rfl hl (by decide) rfl (fun ls hl => ?_)
  exact J6 _ ls _ _ x1 v34 x1 hI hS rfl (lv_sub hl [2, 3, 1, 0] rfl)
