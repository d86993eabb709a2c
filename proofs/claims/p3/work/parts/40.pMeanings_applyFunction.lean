theorem qw_98b2e6b46a : (Cond.methodLink R_Meanings 131 yMeanings_numberOfRow) ∈ bs_W0 := bs_in (in_tables_1_4 (List.mem_of_getElem? (i := 112) rfl)) rfl
theorem qw_8972b5ce5c : (Cond.methodLink R_Meanings 134 yTrees_leftOfTwo) ∈ bs_W0 := bs_in (in_tables_1_4 (List.mem_of_getElem? (i := 122) rfl)) rfl
theorem qw_041f192a6b : (Cond.methodLink R_Meanings 137 yMeanings_bits) ∈ bs_W0 := bs_in (in_tables_1_4 (List.mem_of_getElem? (i := 123) rfl)) rfl
theorem qw_f7151b70e2 : (Cond.methodLink R_Meanings 140 yMeanings_edge) ∈ bs_W0 := bs_in (in_tables_1_4 (List.mem_of_getElem? (i := 129) rfl)) rfl
theorem qw_1c1a520089 : (Cond.methodLink R_Meanings 110 yMeanings_objectAt) ∈ bs_W0 := bs_in (in_tables_1_4 (List.mem_of_getElem? (i := 138) rfl)) rfl
theorem qw_5342b138aa : (Cond.methodLink R_Meanings 113 yMeanings_isRow) ∈ bs_W0 := bs_in (in_tables_1_4 (List.mem_of_getElem? (i := 142) rfl)) rfl
theorem qw_e79345225d : (Cond.methodLink R_Meanings 116 yMeanings_element) ∈ bs_W0 := bs_in (in_tables_1_4 (List.mem_of_getElem? (i := 146) rfl)) rfl
theorem qw_11cbdab6fb : (Cond.methodLink R_Meanings 106 yMeanings_applyFunction) ∈ bs_W0 := bs_in (in_tables_1_4 (List.mem_of_getElem? (i := 108) rfl)) rfl
theorem qw_63bfba27f7 : (Cond.methodLink R_Meanings 171 yTypes_goesDown) ∈ bs_W0 := bs_in (in_tables_1_4 (List.mem_of_getElem? (i := 175) rfl)) rfl
theorem qw_b68edfa9a7 : (Cond.methodLink R_Meanings 174 yRows_set) ∈ bs_W0 := bs_in (in_tables_1_4 (List.mem_of_getElem? (i := 176) rfl)) rfl
theorem qw_88d34ce9ff : (Cond.methodLink R_Meanings 164 yMeanings_isUnknown) ∈ bs_W0 := bs_in (in_tables_1_4 (List.mem_of_getElem? (i := 167) rfl)) rfl
theorem qw_61f742eb08 : (Cond.methodLink R_Meanings 167 yMeanings_cut) ∈ bs_W0 := bs_in (in_tables_1_4 (List.mem_of_getElem? (i := 171) rfl)) rfl
theorem qw_d7f92bc95d : (Cond.methodLink R_Meanings 181 yMeanings_boundOf) ∈ bs_W0 := bs_in (in_tables_1_4 (List.mem_of_getElem? (i := 185) rfl)) rfl
theorem qw_ef57f773bb : (Cond.methodLink R_Meanings 178 yMeanings_noteAttribute) ∈ bs_W0 := bs_in (in_tables_1_4 (List.mem_of_getElem? (i := 181) rfl)) rfl
set_option maxHeartbeats 4000000 in
set_option maxRecDepth 100000 in
theorem k_Meanings_applyFunction (l : Launch) (γ : gE) (A : Nat → Prop) (κ : Nat → Nat) (x1 : Int32) (x2 : Int32) : MU l yMeanings_applyFunction bMeanings_applyFunction 3 (some .int) 3 75 0 0 [.ref (γ.2.2.2 12), .int x1, .int x2] γ A (INV γ A κ) (mQi (fun r H => True ∧ INV γ A κ H) A) := by
  refine mu_openI (by decide) (Nat.le_of_ble_eq_true rfl) ?_
  intro p e s m args below meth c ls Q S hnm hC hA hI hE hl
  obtain ⟨hx, hb, hml, hown, hW⟩ := id S
  have hS : va_S A s.heap s.heap [] := va_S.rf
  have hl : lv_has ls 3 [(0, .ref (γ.2.2.2 12)), (1, .int x1), (2, .int x2)] := hl
  have J30 : ∀ (ls : Array Slot) (H : Heap) (locs : List Loc) (i1 : Int32) (i2 : Int32) (t0 : Int32) (t1 : Int32), INV γ A κ H → va_S A s.heap H locs → lv_has ls 3 [(0, .ref (γ.2.2.2 12)), (1, .int i1), (2, .int i2)] → W p l e (bs_rm 3 0 0 75) s m args below meth c H locs 0 0 Q (F0 m 30 ls [.int t0, .int t1]) := by
    intro ls H locs i1 i2 t0 t1 hI hS hl
    refine lv_icmp_eq (tgt := 36) hx hb dMeanings_applyFunction_30 (by decide) (fun c14 => ?_) (fun c14 => ?_)
    · refine lv_iload_n hx hb dMeanings_applyFunction_36 rfl (lv_at hl 2 rfl) ?_
      by_cases k15 : i2 = 10
      · subst k15
        refine lv_lookup (tgt := 64) hx hb dMeanings_applyFunction_37 (by decide) rfl (by decide) ?_
        refine lv_aload_n hx hb dMeanings_applyFunction_64 rfl (lv_at hl 0 rfl) ?_
        refine lv_iload_n hx hb dMeanings_applyFunction_65 rfl (lv_at hl 1 rfl) ?_
        refine lv_iload_n hx hb dMeanings_applyFunction_66 rfl (lv_at hl 1 rfl) ?_
        refine lv_iconst (v := 1) hx hb dMeanings_applyFunction_67 (by decide) ?_
        refine lv_isub hx hb dMeanings_applyFunction_68 ?_
        refine lv_topi (fun v16 ev16 => ?_)
        refine mu_Vi (rest := []) S hC (fun q h => hA q (Nat.le_trans hS.1 h)) (fun q h => h) hS (k_Meanings_numberOfRow l γ A κ i1 v16) meMeanings_numberOfRow qw_98b2e6b46a ⟨Nat.le_of_ble_eq_true rfl, Nat.le_of_ble_eq_true rfl⟩ (rv_12 hC hI) hI rfl hl.1 rfl (Nat.le_of_ble_eq_true rfl) dMeanings_applyFunction_69 ⟨Nat.le_refl _, Nat.le_refl _⟩ (fun r17 H locs ⟨hr17, hI⟩ hS _ _ => ?_)
        exact hE _ _ _ _ _ hS ⟨trivial, hI⟩ dMeanings_applyFunction_72
      by_cases k18 : i2 = 11
      · subst k18
        refine lv_lookup (tgt := 73) hx hb dMeanings_applyFunction_37 (by decide) rfl (by decide) ?_
        refine lv_aload_n hx hb dMeanings_applyFunction_73 rfl (lv_at hl 0 rfl) ?_
        refine lv_iload_n hx hb dMeanings_applyFunction_74 rfl (lv_at hl 1 rfl) ?_
        refine lv_aload_n hx hb dMeanings_applyFunction_75 rfl (lv_at hl 0 rfl) ?_
        refine of_get S hC (of_12_0 hI) in_Meanings rfl (by decide) qw_c54cffb97e dMeanings_applyFunction_76 ?_
        refine lv_iload_n hx hb dMeanings_applyFunction_79 rfl (lv_at hl 1 rfl) ?_
        refine pu_Vi (rest := [.int i1, .ref (γ.2.2.2 12)]) S hC (k1_Trees_leftOfTwo l γ A κ i1) meTrees_leftOfTwo qw_8972b5ce5c ⟨Nat.le_of_ble_eq_true rfl, Nat.le_of_ble_eq_true rfl⟩ (rv_1 hC hI) hI rfl hl.1 rfl (Nat.le_of_ble_eq_true rfl) dMeanings_applyFunction_80 ⟨Nat.zero_le _, Nat.zero_le _⟩ (fun r19 hr19 => ?_)
        refine lv_iload_n hx hb dMeanings_applyFunction_83 rfl (lv_at hl 1 rfl) ?_
        refine lv_iconst (v := 1) hx hb dMeanings_applyFunction_84 (by decide) ?_
        refine lv_isub hx hb dMeanings_applyFunction_85 ?_
        refine lv_topi (fun v20 ev20 => ?_)
        refine mu_Vi (rest := []) S hC (fun q h => hA q (Nat.le_trans hS.1 h)) (fun q h => h) hS (k_Meanings_bits l γ A κ i1 r19 v20) meMeanings_bits qw_041f192a6b ⟨Nat.le_of_ble_eq_true rfl, Nat.le_of_ble_eq_true rfl⟩ (rv_12 hC hI) hI rfl hl.1 rfl (Nat.le_of_ble_eq_true rfl) dMeanings_applyFunction_86 ⟨Nat.le_refl _, Nat.le_refl _⟩ (fun r21 H locs ⟨hr21, hI⟩ hS _ _ => ?_)
        exact hE _ _ _ _ _ hS ⟨trivial, hI⟩ dMeanings_applyFunction_89
      refine lv_lookup (off := 53) (tgt := 90) hx hb dMeanings_applyFunction_37 (by decide) ((lv_osw k15 (by decide)).trans ((lv_osw k18 (by decide)).trans rfl)) (by decide) ?_
      refine lv_aload_n hx hb dMeanings_applyFunction_90 rfl (lv_at hl 0 rfl) ?_
      refine lv_iload_n hx hb dMeanings_applyFunction_91 rfl (lv_at hl 1 rfl) ?_
      refine lv_iload_n hx hb dMeanings_applyFunction_92 rfl (lv_at hl 1 rfl) ?_
      refine lv_iconst (v := 1) hx hb dMeanings_applyFunction_93 (by decide) ?_
      refine lv_isub hx hb dMeanings_applyFunction_94 ?_
      refine lv_topi (fun v22 ev22 => ?_)
      refine mu_Vi (rest := []) S hC (fun q h => hA q (Nat.le_trans hS.1 h)) (fun q h => h) hS (k_Meanings_edge l γ A κ i1 v22) meMeanings_edge qw_f7151b70e2 ⟨Nat.le_of_ble_eq_true rfl, Nat.le_of_ble_eq_true rfl⟩ (rv_12 hC hI) hI rfl hl.1 rfl (Nat.le_of_ble_eq_true rfl) dMeanings_applyFunction_95 ⟨Nat.le_refl _, Nat.le_refl _⟩ (fun r23 H locs ⟨hr23, hI⟩ hS _ _ => ?_)
      exact hE _ _ _ _ _ hS ⟨trivial, hI⟩ dMeanings_applyFunction_98
    · refine lv_bipush (v := 11) hx hb dMeanings_applyFunction_33 (by decide) ?_
      exact hE _ _ _ _ _ hS ⟨trivial, hI⟩ dMeanings_applyFunction_35
  refine lv_aload_n hx hb dMeanings_applyFunction_0 rfl (lv_at hl 0 rfl) ?_
  refine of_get S hC (of_12_4 hI) in_Meanings rfl (by decide) qw_aa3d3bbcf9 dMeanings_applyFunction_1 ?_
  refine lv_iload_n hx hb dMeanings_applyFunction_4 rfl (lv_at hl 1 rfl) ?_
  refine lv_sipush (v := 3000) hx hb dMeanings_applyFunction_5 (by decide) ?_
  refine mu_Vv (rest := []) S hC (fun q h => hA q (Nat.le_trans hS.1 h)) (fun q h => h) hS (k9_Looks_setMeaning l γ A κ x1 3000) meLooks_setMeaning qw_23315a9189 ⟨Nat.le_of_ble_eq_true rfl, Nat.le_of_ble_eq_true rfl⟩ (rv_9 hC hI) hI rfl hl.1 rfl (Nat.le_of_ble_eq_true rfl) dMeanings_applyFunction_8 ⟨Nat.le_refl _, Nat.le_refl _⟩ (fun H locs hI hS _ _ => ?_)
  refine lv_aload_n hx hb dMeanings_applyFunction_11 rfl (lv_at hl 0 rfl) ?_
  refine of_get S hC (of_12_0 hI) in_Meanings rfl (by decide) qw_c54cffb97e dMeanings_applyFunction_12 ?_
  refine lv_iload_n hx hb dMeanings_applyFunction_15 rfl (lv_at hl 1 rfl) ?_
  refine pu_Vi (rest := []) S hC (k1_Trees_countOf l γ A κ x1) meTrees_countOf qw_08981d77a7 ⟨Nat.le_of_ble_eq_true rfl, Nat.le_of_ble_eq_true rfl⟩ (rv_1 hC hI) hI rfl hl.1 rfl (Nat.le_of_ble_eq_true rfl) dMeanings_applyFunction_16 ⟨Nat.zero_le _, Nat.zero_le _⟩ (fun r25 hr25 => ?_)
  refine lv_iload_n hx hb dMeanings_applyFunction_19 rfl (lv_at hl 2 rfl) ?_
  refine lv_bipush (v := 11) hx hb dMeanings_applyFunction_20 (by decide) ?_
  refine lv_icmp_ne (tgt := 29) hx hb dMeanings_applyFunction_22 (by decide) (fun c26 => ?_) (fun c26 => ?_)
  · refine lv_iconst (v := 1) hx hb dMeanings_applyFunction_29 (by decide) ?_
    exact J30 ls _ _ x1 x2 1 r25 hI hS (lv_sub hl [0, 1, 2] rfl)
  · refine lv_iconst (v := 2) hx hb dMeanings_applyFunction_25 (by decide) ?_
    refine lv_goto (tgt := 30) hx hb dMeanings_applyFunction_26 (by decide) ?_
    exact J30 ls _ _ x1 x2 2 r25 hI hS (lv_sub hl [0, 1, 2] rfl)

set_option maxHeartbeats 4000000 in
set_option maxRecDepth 100000 in
theorem k_Meanings_apply (l : Launch) (γ : gE) (A : Nat → Prop) (κ : Nat → Nat) (x1 : Int32) : MU l yMeanings_apply bMeanings_apply 4 (some .int) 4 97 0 0 [.ref (γ.2.2.2 12), .int x1] γ A (INV γ A κ) (mQi (fun r H => True ∧ INV γ A κ H) A) := by
  refine mu_openI (by decide) (Nat.le_of_ble_eq_true rfl) ?_
  intro p e s m args below meth c ls Q S hnm hC hA hI hE hl
  obtain ⟨hx, hb, hml, hown, hW⟩ := id S
  have hS : va_S A s.heap s.heap [] := va_S.rf
  have hl : lv_has ls 4 [(0, .ref (γ.2.2.2 12)), (1, .int x1)] := hl
  refine lv_aload_n hx hb dMeanings_apply_0 rfl (lv_at hl 0 rfl) ?_
  refine of_get S hC (of_12_1 hI) in_Meanings rfl (by decide) qw_2a07109efc dMeanings_apply_1 ?_
  refine lv_aload_n hx hb dMeanings_apply_4 rfl (lv_at hl 0 rfl) ?_
  refine of_get S hC (of_12_0 hI) in_Meanings rfl (by decide) qw_c54cffb97e dMeanings_apply_5 ?_
  refine lv_iload_n hx hb dMeanings_apply_8 rfl (lv_at hl 1 rfl) ?_
  refine pu_Vi (rest := [.ref (γ.2.2.2 2)]) S hC (k1_Trees_valueOf l γ A κ x1) meTrees_valueOf qw_b5139988c8 ⟨Nat.le_of_ble_eq_true rfl, Nat.le_of_ble_eq_true rfl⟩ (rv_1 hC hI) hI rfl hl.1 rfl (Nat.le_of_ble_eq_true rfl) dMeanings_apply_9 ⟨Nat.zero_le _, Nat.zero_le _⟩ (fun r16 hr16 => ?_)
  refine pu_Vi (rest := []) S hC (k2_Names_find l γ A κ r16) meNames_find qw_941b68ccbe ⟨Nat.le_of_ble_eq_true rfl, Nat.le_of_ble_eq_true rfl⟩ (rv_2 hC hI) hI rfl hl.1 rfl (Nat.le_of_ble_eq_true rfl) dMeanings_apply_12 ⟨Nat.zero_le _, Nat.zero_le _⟩ (fun r17 hr17 => ?_)
  refine lv_istore_n (lv' := [(2, .int r17), (0, .ref (γ.2.2.2 12)), (1, .int x1)]) hx hb dMeanings_apply_15 rfl hl (by decide) rfl (fun ls hl => ?_)
  refine lv_iload_n hx hb dMeanings_apply_16 rfl (lv_at hl 0 rfl) ?_
  refine lv_iconst (v := (-1)) hx hb dMeanings_apply_17 (by decide) ?_
  refine lv_icmp_ne (tgt := 23) hx hb dMeanings_apply_18 (by decide) (fun c18 => ?_) (fun c18 => ?_)
  · refine lv_aload_n hx hb dMeanings_apply_23 rfl (lv_at hl 1 rfl) ?_
    refine of_get S hC (of_12_1 hI) in_Meanings rfl (by decide) qw_2a07109efc dMeanings_apply_24 ?_
    refine lv_iload_n hx hb dMeanings_apply_27 rfl (lv_at hl 0 rfl) ?_
    refine pu_Vi (rest := []) S hC (k2_Names_sortOf l γ A κ r17) meNames_sortOf qw_79c9b178a8 ⟨Nat.le_of_ble_eq_true rfl, Nat.le_of_ble_eq_true rfl⟩ (rv_2 hC hI) hI rfl hl.1 rfl (Nat.le_of_ble_eq_true rfl) dMeanings_apply_28 ⟨Nat.zero_le _, Nat.zero_le _⟩ (fun r19 hr19 => ?_)
    refine lv_iconst (v := 5) hx hb dMeanings_apply_31 (by decide) ?_
    refine lv_icmp_ne (tgt := 49) hx hb dMeanings_apply_32 (by decide) (fun c20 => ?_) (fun c20 => ?_)
    · refine lv_aload_n hx hb dMeanings_apply_49 rfl (lv_at hl 1 rfl) ?_
      refine lv_iload_n hx hb dMeanings_apply_50 rfl (lv_at hl 2 rfl) ?_
      refine pu_Vi (rest := []) S hC (k_Meanings_objectAt l γ A κ x1) meMeanings_objectAt qw_1c1a520089 ⟨Nat.le_of_ble_eq_true rfl, Nat.le_of_ble_eq_true rfl⟩ (rv_12 hC hI) hI rfl hl.1 rfl (Nat.le_of_ble_eq_true rfl) dMeanings_apply_51 ⟨Nat.zero_le _, Nat.zero_le _⟩ (fun r21 hr21 => ?_)
      refine lv_istore_n (lv' := [(3, .int r21), (2, .int r17), (0, .ref (γ.2.2.2 12)), (1, .int x1)]) hx hb dMeanings_apply_54 rfl hl (by decide) rfl (fun ls hl => ?_)
      refine lv_iload_n hx hb dMeanings_apply_55 rfl (lv_at hl 0 rfl) ?_
      refine lv_iconst (v := (-1)) hx hb dMeanings_apply_56 (by decide) ?_
      refine lv_icmp_eq (tgt := 68) hx hb dMeanings_apply_57 (by decide) (fun c22 => ?_) (fun c22 => ?_)
      · refine lv_iconst (v := 2) hx hb dMeanings_apply_68 (by decide) ?_
        exact hE _ _ _ _ _ hS ⟨trivial, hI⟩ dMeanings_apply_69
      · refine lv_aload_n hx hb dMeanings_apply_60 rfl (lv_at hl 2 rfl) ?_
        refine lv_iload_n hx hb dMeanings_apply_61 rfl (lv_at hl 0 rfl) ?_
        refine pu_Vi (rest := []) S hC (k_Meanings_isRow l γ A κ r21) meMeanings_isRow qw_5342b138aa ⟨Nat.le_of_ble_eq_true rfl, Nat.le_of_ble_eq_true rfl⟩ (rv_12 hC hI) hI rfl hl.1 rfl (Nat.le_of_ble_eq_true rfl) dMeanings_apply_62 ⟨Nat.zero_le _, Nat.zero_le _⟩ (fun r23 hr23 => ?_)
        refine lv_if_ne (tgt := 70) hx hb dMeanings_apply_65 (by decide) (fun c24 => ?_) (fun c24 => ?_)
        · refine lv_aload_n hx hb dMeanings_apply_70 rfl (lv_at hl 2 rfl) ?_
          refine of_get S hC (of_12_0 hI) in_Meanings rfl (by decide) qw_c54cffb97e dMeanings_apply_71 ?_
          refine lv_iload_n hx hb dMeanings_apply_74 rfl (lv_at hl 3 rfl) ?_
          refine pu_Vi (rest := []) S hC (k1_Trees_countOf l γ A κ x1) meTrees_countOf qw_08981d77a7 ⟨Nat.le_of_ble_eq_true rfl, Nat.le_of_ble_eq_true rfl⟩ (rv_1 hC hI) hI rfl hl.1 rfl (Nat.le_of_ble_eq_true rfl) dMeanings_apply_75 ⟨Nat.zero_le _, Nat.zero_le _⟩ (fun r25 hr25 => ?_)
          refine lv_iconst (v := 1) hx hb dMeanings_apply_78 (by decide) ?_
          refine lv_icmp_ne (tgt := 94) hx hb dMeanings_apply_79 (by decide) (fun c26 => ?_) (fun c26 => ?_)
          · refine lv_bipush (v := 11) hx hb dMeanings_apply_94 (by decide) ?_
            exact hE _ _ _ _ _ hS ⟨trivial, hI⟩ dMeanings_apply_96
          · refine lv_aload_n hx hb dMeanings_apply_82 rfl (lv_at hl 2 rfl) ?_
            refine lv_iload_n hx hb dMeanings_apply_83 rfl (lv_at hl 3 rfl) ?_
            refine lv_iload_n hx hb dMeanings_apply_84 rfl (lv_at hl 0 rfl) ?_
            refine lv_iload_n hx hb dMeanings_apply_85 rfl (lv_at hl 3 rfl) ?_
            refine lv_iconst (v := 1) hx hb dMeanings_apply_86 (by decide) ?_
            refine lv_isub hx hb dMeanings_apply_87 ?_
            refine lv_topi (fun v27 ev27 => ?_)
            refine mu_Vi (rest := []) S hC (fun q h => hA q (Nat.le_trans hS.1 h)) (fun q h => h) hS (k_Meanings_element l γ A κ x1 r21 v27) meMeanings_element qw_e79345225d ⟨Nat.le_of_ble_eq_true rfl, Nat.le_of_ble_eq_true rfl⟩ (rv_12 hC hI) hI rfl hl.1 rfl (Nat.le_of_ble_eq_true rfl) dMeanings_apply_88 ⟨Nat.le_refl _, Nat.le_refl _⟩ (fun r28 H locs ⟨hr28, hI⟩ hS _ _ => ?_)
            refine lv_goto (tgt := 96) hx hb dMeanings_apply_91 (by decide) ?_
            exact hE _ _ _ _ _ hS ⟨trivial, hI⟩ dMeanings_apply_96
        · refine lv_iconst (v := 2) hx hb dMeanings_apply_68 (by decide) ?_
          exact hE _ _ _ _ _ hS ⟨trivial, hI⟩ dMeanings_apply_69
    · refine lv_aload_n hx hb dMeanings_apply_35 rfl (lv_at hl 1 rfl) ?_
      refine lv_iload_n hx hb dMeanings_apply_36 rfl (lv_at hl 2 rfl) ?_
      refine lv_aload_n hx hb dMeanings_apply_37 rfl (lv_at hl 1 rfl) ?_
      refine of_get S hC (of_12_1 hI) in_Meanings rfl (by decide) qw_2a07109efc dMeanings_apply_38 ?_
      refine lv_iload_n hx hb dMeanings_apply_41 rfl (lv_at hl 0 rfl) ?_
      refine pu_Vi (rest := [.int x1, .ref (γ.2.2.2 12)]) S hC (k2_Names_numberOf l γ A κ r17) meNames_numberOf qw_f03e5d487b ⟨Nat.le_of_ble_eq_true rfl, Nat.le_of_ble_eq_true rfl⟩ (rv_2 hC hI) hI rfl hl.1 rfl (Nat.le_of_ble_eq_true rfl) dMeanings_apply_42 ⟨Nat.zero_le _, Nat.zero_le _⟩ (fun r29 hr29 => ?_)
      refine mu_Vi (rest := []) S hC (fun q h => hA q (Nat.le_trans hS.1 h)) (fun q h => h) hS (k_Meanings_applyFunction l γ A κ x1 r29) meMeanings_applyFunction qw_11cbdab6fb ⟨Nat.le_of_ble_eq_true rfl, Nat.le_of_ble_eq_true rfl⟩ (rv_12 hC hI) hI rfl hl.1 rfl (Nat.le_of_ble_eq_true rfl) dMeanings_apply_45 ⟨Nat.le_refl _, Nat.le_refl _⟩ (fun r30 H locs ⟨hr30, hI⟩ hS _ _ => ?_)
      exact hE _ _ _ _ _ hS ⟨trivial, hI⟩ dMeanings_apply_48
  · refine lv_iconst (v := 1) hx hb dMeanings_apply_21 (by decide) ?_
    exact hE _ _ _ _ _ hS ⟨trivial, hI⟩ dMeanings_apply_22

set_option maxHeartbeats 4000000 in
set_option maxRecDepth 100000 in
theorem k_Meanings_cut (l : Launch) (γ : gE) (A : Nat → Prop) (κ : Nat → Nat) (x1 : Int32) (x2 : Int32) (x3 : Int32) (x4 : Int32) : MU l yMeanings_cut bMeanings_cut 11 (some .int) 3 66 0 0 [.ref (γ.2.2.2 12), .int x1, .int x2, .int x3, .int x4] γ A (INV γ A κ) (mQi (fun r H => True ∧ INV γ A κ H) A) := by
  refine mu_openI (by decide) (Nat.le_of_ble_eq_true rfl) ?_
  intro p e s m args below meth c ls Q S hnm hC hA hI hE hl
  obtain ⟨hx, hb, hml, hown, hW⟩ := id S
  have hS : va_S A s.heap s.heap [] := va_S.rf
  have hl : lv_has ls 11 [(0, .ref (γ.2.2.2 12)), (1, .int x1), (2, .int x2), (3, .int x3), (4, .int x4)] := hl
  have J127 : ∀ (N127 : Nat) (ls : Array Slot) (H : Heap) (locs : List Loc) (i1 : Int32) (i2 : Int32) (i3 : Int32) (i4 : Int32) (i5 : Int32) (i6 : Int32) (i7 : Int32) (i8 : Int32) (i9 : Int32) (i10 : Int32), INV γ A κ H → va_S A s.heap H locs → (2147483647 - i10.toInt).toNat = N127 → lv_has ls 11 [(0, .ref (γ.2.2.2 12)), (1, .int i1), (2, .int i2), (3, .int i3), (4, .int i4), (5, .int i5), (6, .int i6), (7, .int i7), (8, .int i8), (9, .int i9), (10, .int i10)] → W p l e (bs_rm 3 0 0 66) s m args below meth c H locs 0 0 Q (F0 m 127 ls []) := by
    intro N127
    induction N127 using Nat.strongRecOn with
    | ind N127 ih127 =>
      intro ls H locs i1 i2 i3 i4 i5 i6 i7 i8 i9 i10 hI hS hm127 hl
      refine lv_iload hx hb dMeanings_cut_127 (lv_at hl 10 rfl) ?_
      refine lv_iload hx hb dMeanings_cut_129 (lv_at hl 9 rfl) ?_
      refine lv_icmp_ge (tgt := 169) hx hb dMeanings_cut_131 (by decide) (fun c21 => ?_) (fun c21 => ?_)
      · refine lv_iconst (v := 0) hx hb dMeanings_cut_169 (by decide) ?_
        exact hE _ _ _ _ _ hS ⟨trivial, hI⟩ dMeanings_cut_170
      · refine lv_aload_n hx hb dMeanings_cut_134 rfl (lv_at hl 0 rfl) ?_
        refine of_get S hC (of_12_4 hI) in_Meanings rfl (by decide) qw_aa3d3bbcf9 dMeanings_cut_135 ?_
        refine of_getN S hC (of_9_5 hI) in_Looks rfl (by decide) qn_3420aee8ba dMeanings_cut_138 ?_
        refine lv_iload_n hx hb dMeanings_cut_141 rfl (lv_at hl 1 rfl) ?_
        refine lv_iload hx hb dMeanings_cut_142 (lv_at hl 10 rfl) ?_
        refine lv_aload_n hx hb dMeanings_cut_144 rfl (lv_at hl 0 rfl) ?_
        refine of_get S hC (of_12_3 hI) in_Meanings rfl (by decide) qw_9bfdade5f5 dMeanings_cut_145 ?_
        refine of_getN S hC (of_4_3 hI) in_Objects rfl (by decide) qn_d1f72cec6f dMeanings_cut_148 ?_
        refine lv_iload_n hx hb dMeanings_cut_151 rfl (lv_at hl 2 rfl) ?_
        refine lv_iload hx hb dMeanings_cut_152 (lv_at hl 7 rfl) ?_
        refine lv_iload hx hb dMeanings_cut_154 (lv_at hl 10 rfl) ?_
        refine lv_iadd hx hb dMeanings_cut_156 ?_
        refine lv_topi (fun v22 ev22 => ?_)
        refine pu_Vi (rest := [.int i10, .int i1, .ref (γ.2.2.2 10)]) S hC (k5_Rows_get l γ A κ i2 v22) meRows_get qw_a0ada774ee ⟨Nat.le_of_ble_eq_true rfl, Nat.le_of_ble_eq_true rfl⟩ (rv_5 hC hI) hI rfl hl.1 rfl (Nat.le_of_ble_eq_true rfl) dMeanings_cut_157 ⟨Nat.zero_le _, Nat.zero_le _⟩ (fun r23 hr23 => ?_)
        refine mu_Vv (rest := []) S hC (fun q h => hA q (Nat.le_trans hS.1 h)) (fun q h => h) hS (k10_Rows_set l γ A κ i1 i10 r23) meRows_set qw_b68edfa9a7 ⟨Nat.le_of_ble_eq_true rfl, Nat.le_of_ble_eq_true rfl⟩ (rv_10 hC hI) hI rfl hl.1 rfl (Nat.le_of_ble_eq_true rfl) dMeanings_cut_160 ⟨Nat.le_refl _, Nat.le_refl _⟩ (fun H locs hI hS _ _ => ?_)
        obtain ⟨v25, ev25⟩ : ∃ y : Int32, y = i10 + 1 := ⟨_, rfl⟩
        refine lv_iinc (v := v25) (lv' := [(10, .int v25), (0, .ref (γ.2.2.2 12)), (1, .int i1), (2, .int i2), (3, .int i3), (4, .int i4), (5, .int i5), (6, .int i6), (7, .int i7), (8, .int i8), (9, .int i9)]) hx hb dMeanings_cut_163 hl (k := 10) rfl (by rw [ev25]; rfl) (by decide) rfl (fun ls hl => ?_)
        refine lv_goto (tgt := 127) hx hb dMeanings_cut_166 (by decide) ?_
        exact ih127 _ (by have q1 : i10.toInt < 2147483647 := (by first | exact (mu_up (k := i10) (by assumption)).2 | assumption); have q2 := mu_lt q1; rw [← ev25] at q2; omega) ls _ _ i1 i2 i3 i4 i5 i6 i7 i8 i9 v25 hI hS rfl (lv_sub hl [1, 2, 3, 4, 5, 6, 7, 8, 9, 10, 0] rfl)
  have J70 : ∀ (ls : Array Slot) (H : Heap) (locs : List Loc) (i1 : Int32) (i2 : Int32) (i3 : Int32) (i4 : Int32) (i5 : Int32) (i6 : Int32) (i7 : Int32) (t0 : Int32), INV γ A κ H → va_S A s.heap H locs → lv_has ls 11 [(0, .ref (γ.2.2.2 12)), (1, .int i1), (2, .int i2), (3, .int i3), (4, .int i4), (5, .int i5), (6, .int i6), (7, .int i7)] → W p l e (bs_rm 3 0 0 66) s m args below meth c H locs 0 0 Q (F0 m 70 ls [.int t0]) := by
    intro ls H locs i1 i2 i3 i4 i5 i6 i7 t0 hI hS hl
    refine lv_istore (lv' := [(8, .int t0), (0, .ref (γ.2.2.2 12)), (1, .int i1), (2, .int i2), (3, .int i3), (4, .int i4), (5, .int i5), (6, .int i6), (7, .int i7)]) hx hb dMeanings_cut_70 hl (by decide) rfl (fun ls hl => ?_)
    refine lv_iload hx hb dMeanings_cut_72 (lv_at hl 0 rfl) ?_
    refine lv_if_eq (tgt := 96) hx hb dMeanings_cut_74 (by decide) (fun c26 => ?_) (fun c26 => ?_)
    · refine lv_bipush (v := 6) hx hb dMeanings_cut_96 (by decide) ?_
      exact hE _ _ _ _ _ hS ⟨trivial, hI⟩ dMeanings_cut_98
    · refine lv_iload hx hb dMeanings_cut_77 (lv_at hl 7 rfl) ?_
      refine lv_iconst (v := (-1)) hx hb dMeanings_cut_79 (by decide) ?_
      refine lv_icmp_eq (tgt := 96) hx hb dMeanings_cut_80 (by decide) (fun c27 => ?_) (fun c27 => ?_)
      · refine lv_bipush (v := 6) hx hb dMeanings_cut_96 (by decide) ?_
        exact hE _ _ _ _ _ hS ⟨trivial, hI⟩ dMeanings_cut_98
      · refine lv_iload hx hb dMeanings_cut_83 (lv_at hl 8 rfl) ?_
        refine lv_iconst (v := (-1)) hx hb dMeanings_cut_85 (by decide) ?_
        refine lv_icmp_eq (tgt := 96) hx hb dMeanings_cut_86 (by decide) (fun c28 => ?_) (fun c28 => ?_)
        · refine lv_bipush (v := 6) hx hb dMeanings_cut_96 (by decide) ?_
          exact hE _ _ _ _ _ hS ⟨trivial, hI⟩ dMeanings_cut_98
        · refine lv_iload hx hb dMeanings_cut_89 (lv_at hl 7 rfl) ?_
          refine lv_iload hx hb dMeanings_cut_91 (lv_at hl 8 rfl) ?_
          refine lv_icmp_ge (tgt := 99) hx hb dMeanings_cut_93 (by decide) (fun c29 => ?_) (fun c29 => ?_)
          · refine lv_iload hx hb dMeanings_cut_99 (lv_at hl 7 rfl) ?_
            refine lv_iload hx hb dMeanings_cut_101 (lv_at hl 8 rfl) ?_
            refine lv_isub hx hb dMeanings_cut_103 ?_
            refine lv_topi (fun v30 ev30 => ?_)
            refine lv_iconst (v := 1) hx hb dMeanings_cut_104 (by decide) ?_
            refine lv_iadd hx hb dMeanings_cut_105 ?_
            refine lv_topi (fun v31 ev31 => ?_)
            refine lv_istore (lv' := [(9, .int v31), (8, .int t0), (0, .ref (γ.2.2.2 12)), (1, .int i1), (2, .int i2), (3, .int i3), (4, .int i4), (5, .int i5), (6, .int i6), (7, .int i7)]) hx hb dMeanings_cut_106 hl (by decide) rfl (fun ls hl => ?_)
            refine lv_aload_n hx hb dMeanings_cut_108 rfl (lv_at hl 2 rfl) ?_
            refine of_get S hC (of_12_4 hI) in_Meanings rfl (by decide) qw_aa3d3bbcf9 dMeanings_cut_109 ?_
            refine lv_iload_n hx hb dMeanings_cut_112 rfl (lv_at hl 3 rfl) ?_
            refine lv_iconst (v := 3) hx hb dMeanings_cut_113 (by decide) ?_
            refine lv_iload hx hb dMeanings_cut_114 (lv_at hl 0 rfl) ?_
            refine lv_aload_n hx hb dMeanings_cut_116 rfl (lv_at hl 2 rfl) ?_
            refine lv_iload_n hx hb dMeanings_cut_117 rfl (lv_at hl 4 rfl) ?_
            refine pu_Vi (rest := [.int v31, .int 3, .int i1, .ref (γ.2.2.2 9)]) S hC (k_Meanings_isConstant l γ A κ i2) meMeanings_isConstant qw_39c162a16b ⟨Nat.le_of_ble_eq_true rfl, Nat.le_of_ble_eq_true rfl⟩ (rv_12 hC hI) hI rfl hl.1 rfl (Nat.le_of_ble_eq_true rfl) dMeanings_cut_118 ⟨Nat.zero_le _, Nat.zero_le _⟩ (fun r32 hr32 => ?_)
            refine mu_Vv (rest := []) S hC (fun q h => hA q (Nat.le_trans hS.1 h)) (fun q h => h) hS (k9_Looks_note l γ A κ i1 3 v31 r32) meLooks_note qw_454d4ae88d ⟨Nat.le_of_ble_eq_true rfl, Nat.le_of_ble_eq_true rfl⟩ (rv_9 hC hI) hI rfl hl.1 rfl (Nat.le_of_ble_eq_true rfl) dMeanings_cut_121 ⟨Nat.le_refl _, Nat.le_refl _⟩ (fun H locs hI hS _ _ => ?_)
            refine lv_iconst (v := 0) hx hb dMeanings_cut_124 (by decide) ?_
            refine lv_istore (lv' := [(10, .int 0), (9, .int v31), (8, .int t0), (0, .ref (γ.2.2.2 12)), (1, .int i1), (2, .int i2), (3, .int i3), (4, .int i4), (5, .int i5), (6, .int i6), (7, .int i7)]) hx hb dMeanings_cut_125 hl (by decide) rfl (fun ls hl => ?_)
            exact J127 _ ls _ _ i1 i2 i3 i4 i5 i6 i7 t0 v31 0 hI hS rfl (lv_sub hl [3, 4, 5, 6, 7, 8, 9, 10, 2, 1, 0] rfl)
          · refine lv_bipush (v := 6) hx hb dMeanings_cut_96 (by decide) ?_
            exact hE _ _ _ _ _ hS ⟨trivial, hI⟩ dMeanings_cut_98
  have J62 : ∀ (ls : Array Slot) (H : Heap) (locs : List Loc) (i1 : Int32) (i2 : Int32) (i3 : Int32) (i4 : Int32) (i5 : Int32) (i6 : Int32) (i7 : Int32) (t0 : Int32) (t1 : Int32), INV γ A κ H → va_S A s.heap H locs → lv_has ls 11 [(0, .ref (γ.2.2.2 12)), (1, .int i1), (2, .int i2), (3, .int i3), (4, .int i4), (5, .int i5), (6, .int i6), (7, .int i7)] → W p l e (bs_rm 3 0 0 66) s m args below meth c H locs 0 0 Q (F0 m 62 ls [.int t0, .int t1]) := by
    intro ls H locs i1 i2 i3 i4 i5 i6 i7 t0 t1 hI hS hl
    refine lv_icmp_ne (tgt := 69) hx hb dMeanings_cut_62 (by decide) (fun c34 => ?_) (fun c34 => ?_)
    · refine lv_iconst (v := 0) hx hb dMeanings_cut_69 (by decide) ?_
      exact J70 ls _ _ i1 i2 i3 i4 i5 i6 i7 0 hI hS (lv_sub hl [0, 1, 2, 3, 4, 5, 6, 7] rfl)
    · refine lv_iconst (v := 1) hx hb dMeanings_cut_65 (by decide) ?_
      refine lv_goto (tgt := 70) hx hb dMeanings_cut_66 (by decide) ?_
      exact J70 ls _ _ i1 i2 i3 i4 i5 i6 i7 1 hI hS (lv_sub hl [0, 1, 2, 3, 4, 5, 6, 7] rfl)
  refine lv_aload_n hx hb dMeanings_cut_0 rfl (lv_at hl 0 rfl) ?_
  refine of_get S hC (of_12_3 hI) in_Meanings rfl (by decide) qw_9bfdade5f5 dMeanings_cut_1 ?_
  refine lv_iload_n hx hb dMeanings_cut_4 rfl (lv_at hl 2 rfl) ?_
  refine pu_Vi (rest := []) S hC (k4_Objects_typeOfObject l γ A κ x2) meObjects_typeOfObject qw_bc7306873f ⟨Nat.le_of_ble_eq_true rfl, Nat.le_of_ble_eq_true rfl⟩ (rv_4 hC hI) hI rfl hl.1 rfl (Nat.le_of_ble_eq_true rfl) dMeanings_cut_5 ⟨Nat.zero_le _, Nat.zero_le _⟩ (fun r35 hr35 => ?_)
  refine lv_istore (lv' := [(5, .int r35), (0, .ref (γ.2.2.2 12)), (1, .int x1), (2, .int x2), (3, .int x3), (4, .int x4)]) hx hb dMeanings_cut_8 hl (by decide) rfl (fun ls hl => ?_)
  refine lv_aload_n hx hb dMeanings_cut_10 rfl (lv_at hl 1 rfl) ?_
  refine of_get S hC (of_12_2 hI) in_Meanings rfl (by decide) qw_e2a2dba4a9 dMeanings_cut_11 ?_
  refine lv_iload hx hb dMeanings_cut_14 (lv_at hl 0 rfl) ?_
  refine lv_iload_n hx hb dMeanings_cut_16 rfl (lv_at hl 4 rfl) ?_
  refine pu_Vi (rest := []) S hC (k3_Types_fromRight l γ A κ r35 x3) meTypes_fromRight qw_de7e185c5e ⟨Nat.le_of_ble_eq_true rfl, Nat.le_of_ble_eq_true rfl⟩ (rv_3 hC hI) hI rfl hl.1 rfl (Nat.le_of_ble_eq_true rfl) dMeanings_cut_17 ⟨Nat.zero_le _, Nat.zero_le _⟩ (fun r36 hr36 => ?_)
  refine lv_istore (lv' := [(6, .int r36), (5, .int r35), (0, .ref (γ.2.2.2 12)), (1, .int x1), (2, .int x2), (3, .int x3), (4, .int x4)]) hx hb dMeanings_cut_20 hl (by decide) rfl (fun ls hl => ?_)
  refine lv_aload_n hx hb dMeanings_cut_22 rfl (lv_at hl 2 rfl) ?_
  refine of_get S hC (of_12_2 hI) in_Meanings rfl (by decide) qw_e2a2dba4a9 dMeanings_cut_23 ?_
  refine lv_iload hx hb dMeanings_cut_26 (lv_at hl 1 rfl) ?_
  refine lv_iload hx hb dMeanings_cut_28 (lv_at hl 6 rfl) ?_
  refine pu_Vi (rest := []) S hC (k3_Types_fromRight l γ A κ r35 x4) meTypes_fromRight qw_de7e185c5e ⟨Nat.le_of_ble_eq_true rfl, Nat.le_of_ble_eq_true rfl⟩ (rv_3 hC hI) hI rfl hl.1 rfl (Nat.le_of_ble_eq_true rfl) dMeanings_cut_30 ⟨Nat.zero_le _, Nat.zero_le _⟩ (fun r37 hr37 => ?_)
  refine lv_istore (lv' := [(7, .int r37), (6, .int r36), (5, .int r35), (0, .ref (γ.2.2.2 12)), (1, .int x1), (2, .int x2), (3, .int x3), (4, .int x4)]) hx hb dMeanings_cut_33 hl (by decide) rfl (fun ls hl => ?_)
  refine lv_aload_n hx hb dMeanings_cut_35 rfl (lv_at hl 3 rfl) ?_
  refine of_get S hC (of_12_2 hI) in_Meanings rfl (by decide) qw_e2a2dba4a9 dMeanings_cut_36 ?_
  refine lv_iload hx hb dMeanings_cut_39 (lv_at hl 2 rfl) ?_
  refine pu_Vi (rest := []) S hC (k3_Types_goesDown l γ A κ r35) meTypes_goesDown qw_63bfba27f7 ⟨Nat.le_of_ble_eq_true rfl, Nat.le_of_ble_eq_true rfl⟩ (rv_3 hC hI) hI rfl hl.1 rfl (Nat.le_of_ble_eq_true rfl) dMeanings_cut_41 ⟨Nat.zero_le _, Nat.zero_le _⟩ (fun r38 hr38 => ?_)
  refine lv_aload_n hx hb dMeanings_cut_44 rfl (lv_at hl 3 rfl) ?_
  refine of_get S hC (of_12_0 hI) in_Meanings rfl (by decide) qw_c54cffb97e dMeanings_cut_45 ?_
  refine lv_iload_n hx hb dMeanings_cut_48 rfl (lv_at hl 4 rfl) ?_
  refine pu_Vi (rest := [.int r38]) S hC (k1_Trees_kindOf l γ A κ x1) meTrees_kindOf qw_6dd2778f5c ⟨Nat.le_of_ble_eq_true rfl, Nat.le_of_ble_eq_true rfl⟩ (rv_1 hC hI) hI rfl hl.1 rfl (Nat.le_of_ble_eq_true rfl) dMeanings_cut_49 ⟨Nat.zero_le _, Nat.zero_le _⟩ (fun r39 hr39 => ?_)
  refine lv_bipush (v := 24) hx hb dMeanings_cut_52 (by decide) ?_
  refine lv_icmp_ne (tgt := 61) hx hb dMeanings_cut_54 (by decide) (fun c40 => ?_) (fun c40 => ?_)
  · refine lv_iconst (v := 0) hx hb dMeanings_cut_61 (by decide) ?_
    exact J62 ls _ _ x1 x2 x3 x4 r35 r36 r37 0 r38 hI hS (lv_sub hl [3, 4, 5, 6, 7, 2, 1, 0] rfl)
  · refine lv_iconst (v := 1) hx hb dMeanings_cut_57 (by decide) ?_
    refine lv_goto (tgt := 62) hx hb dMeanings_cut_58 (by decide) ?_
    exact J62 ls _ _ x1 x2 x3 x4 r35 r36 r37 1 r38 hI hS (lv_sub hl [3, 4, 5, 6, 7, 2, 1, 0] rfl)

set_option maxHeartbeats 4000000 in
set_option maxRecDepth 100000 in
theorem k_Meanings_slice (l : Launch) (γ : gE) (A : Nat → Prop) (κ : Nat → Nat) (x1 : Int32) : MU l yMeanings_slice bMeanings_slice 5 (some .int) 4 96 0 0 [.ref (γ.2.2.2 12), .int x1] γ A (INV γ A κ) (mQi (fun r H => True ∧ INV γ A κ H) A) := by
  refine mu_openI (by decide) (Nat.le_of_ble_eq_true rfl) ?_
  intro p e s m args below meth c ls Q S hnm hC hA hI hE hl
  obtain ⟨hx, hb, hml, hown, hW⟩ := id S
  have hS : va_S A s.heap s.heap [] := va_S.rf
  have hl : lv_has ls 5 [(0, .ref (γ.2.2.2 12)), (1, .int x1)] := hl
  have J130 : ∀ (ls : Array Slot) (H : Heap) (locs : List Loc) (i1 : Int32) (i2 : Int32) (i3 : Int32) (i4 : Int32) (t0 : Int32) (t1 : Int32) (t2 : Int32) (t3 : Int32), INV γ A κ H → va_S A s.heap H locs → lv_has ls 5 [(0, .ref (γ.2.2.2 12)), (1, .int i1), (2, .int i2), (3, .int i3), (4, .int i4)] → W p l e (bs_rm 4 0 0 96) s m args below meth c H locs 0 0 Q (F0 m 130 ls [.int t0, .int t1, .int t2, .int t3, .ref (γ.2.2.2 9)]) := by
    intro ls H locs i1 i2 i3 i4 t0 t1 t2 t3 hI hS hl
    refine mu_Vv (rest := []) S hC (fun q h => hA q (Nat.le_trans hS.1 h)) (fun q h => h) hS (k9_Looks_note l γ A κ t3 t2 t1 t0) meLooks_note qw_454d4ae88d ⟨Nat.le_of_ble_eq_true rfl, Nat.le_of_ble_eq_true rfl⟩ (rv_9 hC hI) hI rfl hl.1 rfl (Nat.le_of_ble_eq_true rfl) dMeanings_slice_130 ⟨Nat.le_refl _, Nat.le_refl _⟩ (fun H locs hI hS _ _ => ?_)
    refine lv_aload_n hx hb dMeanings_slice_133 rfl (lv_at hl 0 rfl) ?_
    refine of_get S hC (of_12_4 hI) in_Meanings rfl (by decide) qw_aa3d3bbcf9 dMeanings_slice_134 ?_
    refine lv_iload_n hx hb dMeanings_slice_137 rfl (lv_at hl 1 rfl) ?_
    refine lv_iload_n hx hb dMeanings_slice_138 rfl (lv_at hl 2 rfl) ?_
    refine mu_Vv (rest := []) S hC (fun q h => hA q (Nat.le_trans hS.1 h)) (fun q h => h) hS (k9_Looks_setMeaning l γ A κ i1 i2) meLooks_setMeaning qw_23315a9189 ⟨Nat.le_of_ble_eq_true rfl, Nat.le_of_ble_eq_true rfl⟩ (rv_9 hC hI) hI rfl hl.1 rfl (Nat.le_of_ble_eq_true rfl) dMeanings_slice_139 ⟨Nat.le_refl _, Nat.le_refl _⟩ (fun H locs hI hS _ _ => ?_)
    refine lv_aload_n hx hb dMeanings_slice_142 rfl (lv_at hl 0 rfl) ?_
    refine of_get S hC (of_12_4 hI) in_Meanings rfl (by decide) qw_aa3d3bbcf9 dMeanings_slice_143 ?_
    refine lv_iload hx hb dMeanings_slice_146 (lv_at hl 4 rfl) ?_
    refine pu_Vi (rest := []) S hC (k9_Looks_isFixed l γ A κ i4) meLooks_isFixed qw_e1e43cfc73 ⟨Nat.le_of_ble_eq_true rfl, Nat.le_of_ble_eq_true rfl⟩ (rv_9 hC hI) hI rfl hl.1 rfl (Nat.le_of_ble_eq_true rfl) dMeanings_slice_148 ⟨Nat.zero_le _, Nat.zero_le _⟩ (fun r32 hr32 => ?_)
    refine lv_if_eq (tgt := 165) hx hb dMeanings_slice_151 (by decide) (fun c33 => ?_) (fun c33 => ?_)
    · refine lv_iconst (v := 5) hx hb dMeanings_slice_165 (by decide) ?_
      exact hE _ _ _ _ _ hS ⟨trivial, hI⟩ dMeanings_slice_166
    · refine lv_aload_n hx hb dMeanings_slice_154 rfl (lv_at hl 0 rfl) ?_
      refine of_get S hC (of_12_4 hI) in_Meanings rfl (by decide) qw_aa3d3bbcf9 dMeanings_slice_155 ?_
      refine lv_iload_n hx hb dMeanings_slice_158 rfl (lv_at hl 3 rfl) ?_
      refine pu_Vi (rest := []) S hC (k9_Looks_isFixed l γ A κ i3) meLooks_isFixed qw_e1e43cfc73 ⟨Nat.le_of_ble_eq_true rfl, Nat.le_of_ble_eq_true rfl⟩ (rv_9 hC hI) hI rfl hl.1 rfl (Nat.le_of_ble_eq_true rfl) dMeanings_slice_159 ⟨Nat.zero_le _, Nat.zero_le _⟩ (fun r34 hr34 => ?_)
      refine lv_if_ne (tgt := 167) hx hb dMeanings_slice_162 (by decide) (fun c35 => ?_) (fun c35 => ?_)
      · refine lv_aload_n hx hb dMeanings_slice_167 rfl (lv_at hl 0 rfl) ?_
        refine lv_iload_n hx hb dMeanings_slice_168 rfl (lv_at hl 1 rfl) ?_
        refine lv_iload_n hx hb dMeanings_slice_169 rfl (lv_at hl 2 rfl) ?_
        refine lv_aload_n hx hb dMeanings_slice_170 rfl (lv_at hl 0 rfl) ?_
        refine of_get S hC (of_12_4 hI) in_Meanings rfl (by decide) qw_aa3d3bbcf9 dMeanings_slice_171 ?_
        refine lv_iload hx hb dMeanings_slice_174 (lv_at hl 4 rfl) ?_
        refine pu_Vi (rest := [.int i2, .int i1, .ref (γ.2.2.2 12)]) S hC (k9_Looks_numberOf l γ A κ i4) meLooks_numberOf qw_58178e0f63 ⟨Nat.le_of_ble_eq_true rfl, Nat.le_of_ble_eq_true rfl⟩ (rv_9 hC hI) hI rfl hl.1 rfl (Nat.le_of_ble_eq_true rfl) dMeanings_slice_176 ⟨Nat.zero_le _, Nat.zero_le _⟩ (fun r36 hr36 => ?_)
        refine lv_aload_n hx hb dMeanings_slice_179 rfl (lv_at hl 0 rfl) ?_
        refine of_get S hC (of_12_4 hI) in_Meanings rfl (by decide) qw_aa3d3bbcf9 dMeanings_slice_180 ?_
        refine lv_iload_n hx hb dMeanings_slice_183 rfl (lv_at hl 3 rfl) ?_
        refine pu_Vi (rest := [.int r36, .int i2, .int i1, .ref (γ.2.2.2 12)]) S hC (k9_Looks_numberOf l γ A κ i3) meLooks_numberOf qw_58178e0f63 ⟨Nat.le_of_ble_eq_true rfl, Nat.le_of_ble_eq_true rfl⟩ (rv_9 hC hI) hI rfl hl.1 rfl (Nat.le_of_ble_eq_true rfl) dMeanings_slice_184 ⟨Nat.zero_le _, Nat.zero_le _⟩ (fun r37 hr37 => ?_)
        refine mu_Vi (rest := []) S hC (fun q h => hA q (Nat.le_trans hS.1 h)) (fun q h => h) hS (k_Meanings_cut l γ A κ i1 i2 r36 r37) meMeanings_cut qw_61f742eb08 ⟨Nat.le_of_ble_eq_true rfl, Nat.le_of_ble_eq_true rfl⟩ (rv_12 hC hI) hI rfl hl.1 rfl (Nat.le_of_ble_eq_true rfl) dMeanings_slice_187 ⟨Nat.le_refl _, Nat.le_refl _⟩ (fun r38 H locs ⟨hr38, hI⟩ hS _ _ => ?_)
        exact hE _ _ _ _ _ hS ⟨trivial, hI⟩ dMeanings_slice_190
      · refine lv_iconst (v := 5) hx hb dMeanings_slice_165 (by decide) ?_
        exact hE _ _ _ _ _ hS ⟨trivial, hI⟩ dMeanings_slice_166
  have J129 : ∀ (ls : Array Slot) (H : Heap) (locs : List Loc) (i1 : Int32) (i2 : Int32) (i3 : Int32) (i4 : Int32) (t0 : Int32) (t1 : Int32) (t2 : Int32), INV γ A κ H → va_S A s.heap H locs → lv_has ls 5 [(0, .ref (γ.2.2.2 12)), (1, .int i1), (2, .int i2), (3, .int i3), (4, .int i4)] → W p l e (bs_rm 4 0 0 96) s m args below meth c H locs 0 0 Q (F0 m 129 ls [.int t0, .int t1, .int t2, .ref (γ.2.2.2 9)]) := by
    intro ls H locs i1 i2 i3 i4 t0 t1 t2 hI hS hl
    refine lv_iconst (v := 0) hx hb dMeanings_slice_129 (by decide) ?_
    exact J130 ls _ _ i1 i2 i3 i4 0 t0 t1 t2 hI hS (lv_sub hl [0, 1, 2, 3, 4] rfl)
  refine lv_aload_n hx hb dMeanings_slice_0 rfl (lv_at hl 0 rfl) ?_
  refine of_get S hC (of_12_0 hI) in_Meanings rfl (by decide) qw_c54cffb97e dMeanings_slice_1 ?_
  refine lv_iload_n hx hb dMeanings_slice_4 rfl (lv_at hl 1 rfl) ?_
  refine pu_Vi (rest := []) S hC (k1_Trees_countOf l γ A κ x1) meTrees_countOf qw_08981d77a7 ⟨Nat.le_of_ble_eq_true rfl, Nat.le_of_ble_eq_true rfl⟩ (rv_1 hC hI) hI rfl hl.1 rfl (Nat.le_of_ble_eq_true rfl) dMeanings_slice_5 ⟨Nat.zero_le _, Nat.zero_le _⟩ (fun r39 hr39 => ?_)
  refine lv_iconst (v := 2) hx hb dMeanings_slice_8 (by decide) ?_
  refine lv_icmp_eq (tgt := 15) hx hb dMeanings_slice_9 (by decide) (fun c40 => ?_) (fun c40 => ?_)
  · refine lv_aload_n hx hb dMeanings_slice_15 rfl (lv_at hl 0 rfl) ?_
    refine lv_iload_n hx hb dMeanings_slice_16 rfl (lv_at hl 1 rfl) ?_
    refine pu_Vi (rest := []) S hC (k_Meanings_isUnknown l γ A κ x1) meMeanings_isUnknown qw_88d34ce9ff ⟨Nat.le_of_ble_eq_true rfl, Nat.le_of_ble_eq_true rfl⟩ (rv_12 hC hI) hI rfl hl.1 rfl (Nat.le_of_ble_eq_true rfl) dMeanings_slice_17 ⟨Nat.zero_le _, Nat.zero_le _⟩ (fun r41 hr41 => ?_)
    refine lv_if_eq (tgt := 25) hx hb dMeanings_slice_20 (by decide) (fun c42 => ?_) (fun c42 => ?_)
    · refine lv_aload_n hx hb dMeanings_slice_25 rfl (lv_at hl 0 rfl) ?_
      refine lv_iload_n hx hb dMeanings_slice_26 rfl (lv_at hl 1 rfl) ?_
      refine pu_Vi (rest := []) S hC (k_Meanings_objectAt l γ A κ x1) meMeanings_objectAt qw_1c1a520089 ⟨Nat.le_of_ble_eq_true rfl, Nat.le_of_ble_eq_true rfl⟩ (rv_12 hC hI) hI rfl hl.1 rfl (Nat.le_of_ble_eq_true rfl) dMeanings_slice_27 ⟨Nat.zero_le _, Nat.zero_le _⟩ (fun r43 hr43 => ?_)
      refine lv_istore_n (lv' := [(2, .int r43), (0, .ref (γ.2.2.2 12)), (1, .int x1)]) hx hb dMeanings_slice_30 rfl hl (by decide) rfl (fun ls hl => ?_)
      refine lv_iload_n hx hb dMeanings_slice_31 rfl (lv_at hl 0 rfl) ?_
      refine lv_iconst (v := (-1)) hx hb dMeanings_slice_32 (by decide) ?_
      refine lv_icmp_eq (tgt := 44) hx hb dMeanings_slice_33 (by decide) (fun c44 => ?_) (fun c44 => ?_)
      · refine lv_iconst (v := 2) hx hb dMeanings_slice_44 (by decide) ?_
        exact hE _ _ _ _ _ hS ⟨trivial, hI⟩ dMeanings_slice_45
      · refine lv_aload_n hx hb dMeanings_slice_36 rfl (lv_at hl 1 rfl) ?_
        refine lv_iload_n hx hb dMeanings_slice_37 rfl (lv_at hl 0 rfl) ?_
        refine pu_Vi (rest := []) S hC (k_Meanings_isRow l γ A κ r43) meMeanings_isRow qw_5342b138aa ⟨Nat.le_of_ble_eq_true rfl, Nat.le_of_ble_eq_true rfl⟩ (rv_12 hC hI) hI rfl hl.1 rfl (Nat.le_of_ble_eq_true rfl) dMeanings_slice_38 ⟨Nat.zero_le _, Nat.zero_le _⟩ (fun r45 hr45 => ?_)
        refine lv_if_ne (tgt := 46) hx hb dMeanings_slice_41 (by decide) (fun c46 => ?_) (fun c46 => ?_)
        · refine lv_iload_n hx hb dMeanings_slice_46 rfl (lv_at hl 2 rfl) ?_
          refine lv_iconst (v := 1) hx hb dMeanings_slice_47 (by decide) ?_
          refine lv_isub hx hb dMeanings_slice_48 ?_
          refine lv_topi (fun v47 ev47 => ?_)
          refine lv_istore_n (lv' := [(3, .int v47), (2, .int r43), (0, .ref (γ.2.2.2 12)), (1, .int x1)]) hx hb dMeanings_slice_49 rfl hl (by decide) rfl (fun ls hl => ?_)
          refine lv_aload_n hx hb dMeanings_slice_50 rfl (lv_at hl 2 rfl) ?_
          refine of_get S hC (of_12_0 hI) in_Meanings rfl (by decide) qw_c54cffb97e dMeanings_slice_51 ?_
          refine lv_iload_n hx hb dMeanings_slice_54 rfl (lv_at hl 3 rfl) ?_
          refine pu_Vi (rest := []) S hC (k1_Trees_leftOfTwo l γ A κ x1) meTrees_leftOfTwo qw_8972b5ce5c ⟨Nat.le_of_ble_eq_true rfl, Nat.le_of_ble_eq_true rfl⟩ (rv_1 hC hI) hI rfl hl.1 rfl (Nat.le_of_ble_eq_true rfl) dMeanings_slice_55 ⟨Nat.zero_le _, Nat.zero_le _⟩ (fun r48 hr48 => ?_)
          refine lv_istore (lv' := [(4, .int r48), (3, .int v47), (2, .int r43), (0, .ref (γ.2.2.2 12)), (1, .int x1)]) hx hb dMeanings_slice_58 hl (by decide) rfl (fun ls hl => ?_)
          refine lv_aload_n hx hb dMeanings_slice_60 rfl (lv_at hl 3 rfl) ?_
          refine of_get S hC (of_12_4 hI) in_Meanings rfl (by decide) qw_aa3d3bbcf9 dMeanings_slice_61 ?_
          refine lv_iload hx hb dMeanings_slice_64 (lv_at hl 0 rfl) ?_
          refine pu_Vi (rest := []) S hC (k9_Looks_classOf l γ A κ r48) meLooks_classOf qw_631ccf37b6 ⟨Nat.le_of_ble_eq_true rfl, Nat.le_of_ble_eq_true rfl⟩ (rv_9 hC hI) hI rfl hl.1 rfl (Nat.le_of_ble_eq_true rfl) dMeanings_slice_66 ⟨Nat.zero_le _, Nat.zero_le _⟩ (fun r49 hr49 => ?_)
          refine lv_iconst (v := 2) hx hb dMeanings_slice_69 (by decide) ?_
          refine lv_icmp_ne (tgt := 85) hx hb dMeanings_slice_70 (by decide) (fun c50 => ?_) (fun c50 => ?_)
          · refine lv_iconst (v := 3) hx hb dMeanings_slice_85 (by decide) ?_
            exact hE _ _ _ _ _ hS ⟨trivial, hI⟩ dMeanings_slice_86
          · refine lv_aload_n hx hb dMeanings_slice_73 rfl (lv_at hl 3 rfl) ?_
            refine of_get S hC (of_12_4 hI) in_Meanings rfl (by decide) qw_aa3d3bbcf9 dMeanings_slice_74 ?_
            refine lv_iload_n hx hb dMeanings_slice_77 rfl (lv_at hl 1 rfl) ?_
            refine pu_Vi (rest := []) S hC (k9_Looks_classOf l γ A κ v47) meLooks_classOf qw_631ccf37b6 ⟨Nat.le_of_ble_eq_true rfl, Nat.le_of_ble_eq_true rfl⟩ (rv_9 hC hI) hI rfl hl.1 rfl (Nat.le_of_ble_eq_true rfl) dMeanings_slice_78 ⟨Nat.zero_le _, Nat.zero_le _⟩ (fun r51 hr51 => ?_)
            refine lv_iconst (v := 2) hx hb dMeanings_slice_81 (by decide) ?_
            refine lv_icmp_eq (tgt := 87) hx hb dMeanings_slice_82 (by decide) (fun c52 => ?_) (fun c52 => ?_)
            · refine lv_aload_n hx hb dMeanings_slice_87 rfl (lv_at hl 3 rfl) ?_
              refine of_get S hC (of_12_4 hI) in_Meanings rfl (by decide) qw_aa3d3bbcf9 dMeanings_slice_88 ?_
              refine lv_iload_n hx hb dMeanings_slice_91 rfl (lv_at hl 4 rfl) ?_
              refine lv_iconst (v := 3) hx hb dMeanings_slice_92 (by decide) ?_
              refine lv_iconst (v := 0) hx hb dMeanings_slice_93 (by decide) ?_
              refine lv_aload_n hx hb dMeanings_slice_94 rfl (lv_at hl 3 rfl) ?_
              refine lv_iload_n hx hb dMeanings_slice_95 rfl (lv_at hl 2 rfl) ?_
              refine pu_Vi (rest := [.int 0, .int 3, .int x1, .ref (γ.2.2.2 9)]) S hC (k_Meanings_isConstant l γ A κ r43) meMeanings_isConstant qw_39c162a16b ⟨Nat.le_of_ble_eq_true rfl, Nat.le_of_ble_eq_true rfl⟩ (rv_12 hC hI) hI rfl hl.1 rfl (Nat.le_of_ble_eq_true rfl) dMeanings_slice_96 ⟨Nat.zero_le _, Nat.zero_le _⟩ (fun r53 hr53 => ?_)
              refine lv_if_eq (tgt := 129) hx hb dMeanings_slice_99 (by decide) (fun c54 => ?_) (fun c54 => ?_)
              · exact J129 ls _ _ x1 r43 v47 r48 0 3 x1 hI hS (lv_sub hl [3, 4, 2, 1, 0] rfl)
              · refine lv_aload_n hx hb dMeanings_slice_102 rfl (lv_at hl 3 rfl) ?_
                refine of_get S hC (of_12_4 hI) in_Meanings rfl (by decide) qw_aa3d3bbcf9 dMeanings_slice_103 ?_
                refine lv_iload hx hb dMeanings_slice_106 (lv_at hl 0 rfl) ?_
                refine pu_Vi (rest := [.int 0, .int 3, .int x1, .ref (γ.2.2.2 9)]) S hC (k9_Looks_isFixed l γ A κ r48) meLooks_isFixed qw_e1e43cfc73 ⟨Nat.le_of_ble_eq_true rfl, Nat.le_of_ble_eq_true rfl⟩ (rv_9 hC hI) hI rfl hl.1 rfl (Nat.le_of_ble_eq_true rfl) dMeanings_slice_108 ⟨Nat.zero_le _, Nat.zero_le _⟩ (fun r55 hr55 => ?_)
                refine lv_if_eq (tgt := 129) hx hb dMeanings_slice_111 (by decide) (fun c56 => ?_) (fun c56 => ?_)
                · exact J129 ls _ _ x1 r43 v47 r48 0 3 x1 hI hS (lv_sub hl [3, 4, 2, 1, 0] rfl)
                · refine lv_aload_n hx hb dMeanings_slice_114 rfl (lv_at hl 3 rfl) ?_
                  refine of_get S hC (of_12_4 hI) in_Meanings rfl (by decide) qw_aa3d3bbcf9 dMeanings_slice_115 ?_
                  refine lv_iload_n hx hb dMeanings_slice_118 rfl (lv_at hl 1 rfl) ?_
                  refine pu_Vi (rest := [.int 0, .int 3, .int x1, .ref (γ.2.2.2 9)]) S hC (k9_Looks_isFixed l γ A κ v47) meLooks_isFixed qw_e1e43cfc73 ⟨Nat.le_of_ble_eq_true rfl, Nat.le_of_ble_eq_true rfl⟩ (rv_9 hC hI) hI rfl hl.1 rfl (Nat.le_of_ble_eq_true rfl) dMeanings_slice_119 ⟨Nat.zero_le _, Nat.zero_le _⟩ (fun r57 hr57 => ?_)
                  refine lv_if_eq (tgt := 129) hx hb dMeanings_slice_122 (by decide) (fun c58 => ?_) (fun c58 => ?_)
                  · exact J129 ls _ _ x1 r43 v47 r48 0 3 x1 hI hS (lv_sub hl [3, 4, 2, 1, 0] rfl)
                  · refine lv_iconst (v := 1) hx hb dMeanings_slice_125 (by decide) ?_
                    refine lv_goto (tgt := 130) hx hb dMeanings_slice_126 (by decide) ?_
                    exact J130 ls _ _ x1 r43 v47 r48 1 0 3 x1 hI hS (lv_sub hl [3, 4, 2, 1, 0] rfl)
            · refine lv_iconst (v := 3) hx hb dMeanings_slice_85 (by decide) ?_
              exact hE _ _ _ _ _ hS ⟨trivial, hI⟩ dMeanings_slice_86
        · refine lv_iconst (v := 2) hx hb dMeanings_slice_44 (by decide) ?_
          exact hE _ _ _ _ _ hS ⟨trivial, hI⟩ dMeanings_slice_45
    · refine lv_iconst (v := 1) hx hb dMeanings_slice_23 (by decide) ?_
      exact hE _ _ _ _ _ hS ⟨trivial, hI⟩ dMeanings_slice_24
  · refine lv_bipush (v := 11) hx hb dMeanings_slice_12 (by decide) ?_
    exact hE _ _ _ _ _ hS ⟨trivial, hI⟩ dMeanings_slice_14

set_option maxHeartbeats 4000000 in
set_option maxRecDepth 100000 in
theorem k_Meanings_noteAttribute (l : Launch) (γ : gE) (A : Nat → Prop) (κ : Nat → Nat) (x1 : Int32) (x2 : Int32) (x3 : Int32) : MU l yMeanings_noteAttribute bMeanings_noteAttribute 4 (none) 3 66 0 0 [.ref (γ.2.2.2 12), .int x1, .int x2, .int x3] γ A (INV γ A κ) (mQv (fun H => INV γ A κ H) A) := by
  refine mu_openV (by decide) (Nat.le_of_ble_eq_true rfl) ?_
  intro p e s m args below meth c ls Q S hnm hC hA hI hE hl
  obtain ⟨hx, hb, hml, hown, hW⟩ := id S
  have hS : va_S A s.heap s.heap [] := va_S.rf
  have hl : lv_has ls 4 [(0, .ref (γ.2.2.2 12)), (1, .int x1), (2, .int x2), (3, .int x3)] := hl
  refine lv_iload_n hx hb dMeanings_noteAttribute_0 rfl (lv_at hl 2 rfl) ?_
  refine lv_bipush (v := 18) hx hb dMeanings_noteAttribute_1 (by decide) ?_
  refine lv_icmp_lt (tgt := 34) hx hb dMeanings_noteAttribute_3 (by decide) (fun c10 => ?_) (fun c10 => ?_)
  · refine lv_iload_n hx hb dMeanings_noteAttribute_34 rfl (lv_at hl 2 rfl) ?_
    refine lv_bipush (v := 17) hx hb dMeanings_noteAttribute_35 (by decide) ?_
    refine lv_icmp_ne (tgt := 68) hx hb dMeanings_noteAttribute_37 (by decide) (fun c11 => ?_) (fun c11 => ?_)
    · refine lv_aload_n hx hb dMeanings_noteAttribute_68 rfl (lv_at hl 0 rfl) ?_
      refine of_get S hC (of_12_4 hI) in_Meanings rfl (by decide) qw_aa3d3bbcf9 dMeanings_noteAttribute_69 ?_
      refine lv_iload_n hx hb dMeanings_noteAttribute_72 rfl (lv_at hl 1 rfl) ?_
      refine lv_iconst (v := 1) hx hb dMeanings_noteAttribute_73 (by decide) ?_
      refine lv_iconst (v := 0) hx hb dMeanings_noteAttribute_74 (by decide) ?_
      refine lv_iconst (v := 0) hx hb dMeanings_noteAttribute_75 (by decide) ?_
      refine mu_Vv (rest := []) S hC (fun q h => hA q (Nat.le_trans hS.1 h)) (fun q h => h) hS (k9_Looks_note l γ A κ x1 1 0 0) meLooks_note qw_454d4ae88d ⟨Nat.le_of_ble_eq_true rfl, Nat.le_of_ble_eq_true rfl⟩ (rv_9 hC hI) hI rfl hl.1 rfl (Nat.le_of_ble_eq_true rfl) dMeanings_noteAttribute_76 ⟨Nat.le_refl _, Nat.le_refl _⟩ (fun H locs hI hS _ _ => ?_)
      exact hE _ _ _ _ hS hI dMeanings_noteAttribute_79
    · refine lv_aload_n hx hb dMeanings_noteAttribute_40 rfl (lv_at hl 0 rfl) ?_
      refine of_get S hC (of_12_4 hI) in_Meanings rfl (by decide) qw_aa3d3bbcf9 dMeanings_noteAttribute_41 ?_
      refine lv_iload_n hx hb dMeanings_noteAttribute_44 rfl (lv_at hl 1 rfl) ?_
      refine lv_aload_n hx hb dMeanings_noteAttribute_45 rfl (lv_at hl 0 rfl) ?_
      refine of_get S hC (of_12_2 hI) in_Meanings rfl (by decide) qw_e2a2dba4a9 dMeanings_noteAttribute_46 ?_
      refine lv_iload_n hx hb dMeanings_noteAttribute_49 rfl (lv_at hl 3 rfl) ?_
      refine pu_Vi (rest := [.int x1, .ref (γ.2.2.2 9)]) S hC (k3_Types_classOf l γ A κ x3) meTypes_classOf qw_ac19273b21 ⟨Nat.le_of_ble_eq_true rfl, Nat.le_of_ble_eq_true rfl⟩ (rv_3 hC hI) hI rfl hl.1 rfl (Nat.le_of_ble_eq_true rfl) dMeanings_noteAttribute_50 ⟨Nat.zero_le _, Nat.zero_le _⟩ (fun r13 hr13 => ?_)
      refine lv_aload_n hx hb dMeanings_noteAttribute_53 rfl (lv_at hl 0 rfl) ?_
      refine of_get S hC (of_12_2 hI) in_Meanings rfl (by decide) qw_e2a2dba4a9 dMeanings_noteAttribute_54 ?_
      refine lv_iload_n hx hb dMeanings_noteAttribute_57 rfl (lv_at hl 3 rfl) ?_
      refine pu_Vi (rest := [.int r13, .int x1, .ref (γ.2.2.2 9)]) S hC (k3_Types_extentOf l γ A κ x3) meTypes_extentOf qw_3b2c7270bb ⟨Nat.le_of_ble_eq_true rfl, Nat.le_of_ble_eq_true rfl⟩ (rv_3 hC hI) hI rfl hl.1 rfl (Nat.le_of_ble_eq_true rfl) dMeanings_noteAttribute_58 ⟨Nat.zero_le _, Nat.zero_le _⟩ (fun r14 hr14 => ?_)
      refine lv_iconst (v := 0) hx hb dMeanings_noteAttribute_61 (by decide) ?_
      refine mu_Vv (rest := []) S hC (fun q h => hA q (Nat.le_trans hS.1 h)) (fun q h => h) hS (k9_Looks_note l γ A κ x1 r13 r14 0) meLooks_note qw_454d4ae88d ⟨Nat.le_of_ble_eq_true rfl, Nat.le_of_ble_eq_true rfl⟩ (rv_9 hC hI) hI rfl hl.1 rfl (Nat.le_of_ble_eq_true rfl) dMeanings_noteAttribute_62 ⟨Nat.le_refl _, Nat.le_refl _⟩ (fun H locs hI hS _ _ => ?_)
      refine lv_goto (tgt := 79) hx hb dMeanings_noteAttribute_65 (by decide) ?_
      exact hE _ _ _ _ hS hI dMeanings_noteAttribute_79
  · refine lv_aload_n hx hb dMeanings_noteAttribute_6 rfl (lv_at hl 0 rfl) ?_
    refine of_get S hC (of_12_4 hI) in_Meanings rfl (by decide) qw_aa3d3bbcf9 dMeanings_noteAttribute_7 ?_
    refine lv_iload_n hx hb dMeanings_noteAttribute_10 rfl (lv_at hl 1 rfl) ?_
    refine lv_iconst (v := 2) hx hb dMeanings_noteAttribute_11 (by decide) ?_
    refine lv_iconst (v := 0) hx hb dMeanings_noteAttribute_12 (by decide) ?_
    refine lv_iconst (v := 1) hx hb dMeanings_noteAttribute_13 (by decide) ?_
    refine mu_Vv (rest := []) S hC (fun q h => hA q (Nat.le_trans hS.1 h)) (fun q h => h) hS (k9_Looks_note l γ A κ x1 2 0 1) meLooks_note qw_454d4ae88d ⟨Nat.le_of_ble_eq_true rfl, Nat.le_of_ble_eq_true rfl⟩ (rv_9 hC hI) hI rfl hl.1 rfl (Nat.le_of_ble_eq_true rfl) dMeanings_noteAttribute_14 ⟨Nat.le_refl _, Nat.le_refl _⟩ (fun H locs hI hS _ _ => ?_)
    refine lv_aload_n hx hb dMeanings_noteAttribute_17 rfl (lv_at hl 0 rfl) ?_
    refine of_get S hC (of_12_4 hI) in_Meanings rfl (by decide) qw_aa3d3bbcf9 dMeanings_noteAttribute_18 ?_
    refine lv_iload_n hx hb dMeanings_noteAttribute_21 rfl (lv_at hl 1 rfl) ?_
    refine lv_aload_n hx hb dMeanings_noteAttribute_22 rfl (lv_at hl 0 rfl) ?_
    refine lv_iload_n hx hb dMeanings_noteAttribute_23 rfl (lv_at hl 2 rfl) ?_
    refine lv_iload_n hx hb dMeanings_noteAttribute_24 rfl (lv_at hl 3 rfl) ?_
    refine pu_Vi (rest := [.int x1, .ref (γ.2.2.2 9)]) S hC (k_Meanings_boundOf l γ A κ x2 x3) meMeanings_boundOf qw_d7f92bc95d ⟨Nat.le_of_ble_eq_true rfl, Nat.le_of_ble_eq_true rfl⟩ (rv_12 hC hI) hI rfl hl.1 rfl (Nat.le_of_ble_eq_true rfl) dMeanings_noteAttribute_25 ⟨Nat.zero_le _, Nat.zero_le _⟩ (fun r17 hr17 => ?_)
    refine mu_Vv (rest := []) S hC (fun q h => hA q (Nat.le_trans hS.1 h)) (fun q h => h) hS (k9_Looks_setNumber l γ A κ x1 r17) meLooks_setNumber qw_86190d2de0 ⟨Nat.le_of_ble_eq_true rfl, Nat.le_of_ble_eq_true rfl⟩ (rv_9 hC hI) hI rfl hl.1 rfl (Nat.le_of_ble_eq_true rfl) dMeanings_noteAttribute_28 ⟨Nat.le_refl _, Nat.le_refl _⟩ (fun H locs hI hS _ _ => ?_)
    refine lv_goto (tgt := 79) hx hb dMeanings_noteAttribute_31 (by decide) ?_
    exact hE _ _ _ _ hS hI dMeanings_noteAttribute_79

set_option maxHeartbeats 4000000 in
set_option maxRecDepth 100000 in
theorem k_Meanings_attribute (l : Launch) (γ : gE) (A : Nat → Prop) (κ : Nat → Nat) (x1 : Int32) : MU l yMeanings_attribute bMeanings_attribute 5 (some .int) 4 89 0 0 [.ref (γ.2.2.2 12), .int x1] γ A (INV γ A κ) (mQi (fun r H => True ∧ INV γ A κ H) A) := by
  refine mu_openI (by decide) (Nat.le_of_ble_eq_true rfl) ?_
  intro p e s m args below meth c ls Q S hnm hC hA hI hE hl
  obtain ⟨hx, hb, hml, hown, hW⟩ := id S
  have hS : va_S A s.heap s.heap [] := va_S.rf
  have hl : lv_has ls 5 [(0, .ref (γ.2.2.2 12)), (1, .int x1)] := hl
  have J124 : ∀ (ls : Array Slot) (H : Heap) (locs : List Loc) (i1 : Int32) (i2 : Int32) (i3 : Int32) (i4 : Int32), INV γ A κ H → va_S A s.heap H locs → lv_has ls 5 [(0, .ref (γ.2.2.2 12)), (1, .int i1), (2, .int i2), (3, .int i3), (4, .int i4)] → W p l e (bs_rm 4 0 0 89) s m args below meth c H locs 0 0 Q (F0 m 124 ls []) := by
    intro ls H locs i1 i2 i3 i4 hI hS hl
    refine lv_aload_n hx hb dMeanings_attribute_124 rfl (lv_at hl 0 rfl) ?_
    refine lv_iload_n hx hb dMeanings_attribute_125 rfl (lv_at hl 1 rfl) ?_
    refine lv_iload_n hx hb dMeanings_attribute_126 rfl (lv_at hl 3 rfl) ?_
    refine lv_aload_n hx hb dMeanings_attribute_127 rfl (lv_at hl 0 rfl) ?_
    refine of_get S hC (of_12_3 hI) in_Meanings rfl (by decide) qw_9bfdade5f5 dMeanings_attribute_128 ?_
    refine lv_iload hx hb dMeanings_attribute_131 (lv_at hl 4 rfl) ?_
    refine pu_Vi (rest := [.int i3, .int i1, .ref (γ.2.2.2 12)]) S hC (k4_Objects_typeOfObject l γ A κ i4) meObjects_typeOfObject qw_bc7306873f ⟨Nat.le_of_ble_eq_true rfl, Nat.le_of_ble_eq_true rfl⟩ (rv_4 hC hI) hI rfl hl.1 rfl (Nat.le_of_ble_eq_true rfl) dMeanings_attribute_133 ⟨Nat.zero_le _, Nat.zero_le _⟩ (fun r24 hr24 => ?_)
    refine mu_Vv (rest := []) S hC (fun q h => hA q (Nat.le_trans hS.1 h)) (fun q h => h) hS (k_Meanings_noteAttribute l γ A κ i1 i3 r24) meMeanings_noteAttribute qw_ef57f773bb ⟨Nat.le_of_ble_eq_true rfl, Nat.le_of_ble_eq_true rfl⟩ (rv_12 hC hI) hI rfl hl.1 rfl (Nat.le_of_ble_eq_true rfl) dMeanings_attribute_136 ⟨Nat.le_refl _, Nat.le_refl _⟩ (fun H locs hI hS _ _ => ?_)
    refine lv_aload_n hx hb dMeanings_attribute_139 rfl (lv_at hl 0 rfl) ?_
    refine of_get S hC (of_12_4 hI) in_Meanings rfl (by decide) qw_aa3d3bbcf9 dMeanings_attribute_140 ?_
    refine lv_iload_n hx hb dMeanings_attribute_143 rfl (lv_at hl 1 rfl) ?_
    refine lv_iload hx hb dMeanings_attribute_144 (lv_at hl 4 rfl) ?_
    refine mu_Vv (rest := []) S hC (fun q h => hA q (Nat.le_trans hS.1 h)) (fun q h => h) hS (k9_Looks_setMeaning l γ A κ i1 i4) meLooks_setMeaning qw_23315a9189 ⟨Nat.le_of_ble_eq_true rfl, Nat.le_of_ble_eq_true rfl⟩ (rv_9 hC hI) hI rfl hl.1 rfl (Nat.le_of_ble_eq_true rfl) dMeanings_attribute_146 ⟨Nat.le_refl _, Nat.le_refl _⟩ (fun H locs hI hS _ _ => ?_)
    refine lv_iconst (v := 0) hx hb dMeanings_attribute_149 (by decide) ?_
    exact hE _ _ _ _ _ hS ⟨trivial, hI⟩ dMeanings_attribute_150
  have J107 : ∀ (ls : Array Slot) (H : Heap) (locs : List Loc) (i1 : Int32) (i2 : Int32) (i3 : Int32) (i4 : Int32), INV γ A κ H → va_S A s.heap H locs → lv_has ls 5 [(0, .ref (γ.2.2.2 12)), (1, .int i1), (2, .int i2), (3, .int i3), (4, .int i4)] → W p l e (bs_rm 4 0 0 89) s m args below meth c H locs 0 0 Q (F0 m 107 ls []) := by
    intro ls H locs i1 i2 i3 i4 hI hS hl
    refine lv_iload_n hx hb dMeanings_attribute_107 rfl (lv_at hl 3 rfl) ?_
    refine lv_bipush (v := 18) hx hb dMeanings_attribute_108 (by decide) ?_
    refine lv_icmp_lt (tgt := 124) hx hb dMeanings_attribute_110 (by decide) (fun c27 => ?_) (fun c27 => ?_)
    · exact J124 ls _ _ i1 i2 i3 i4 hI hS (lv_sub hl [0, 1, 2, 3, 4] rfl)
    · refine lv_aload_n hx hb dMeanings_attribute_113 rfl (lv_at hl 0 rfl) ?_
      refine lv_iload hx hb dMeanings_attribute_114 (lv_at hl 4 rfl) ?_
      refine pu_Vi (rest := []) S hC (k_Meanings_isRow l γ A κ i4) meMeanings_isRow qw_5342b138aa ⟨Nat.le_of_ble_eq_true rfl, Nat.le_of_ble_eq_true rfl⟩ (rv_12 hC hI) hI rfl hl.1 rfl (Nat.le_of_ble_eq_true rfl) dMeanings_attribute_116 ⟨Nat.zero_le _, Nat.zero_le _⟩ (fun r28 hr28 => ?_)
      refine lv_if_ne (tgt := 124) hx hb dMeanings_attribute_119 (by decide) (fun c29 => ?_) (fun c29 => ?_)
      · exact J124 ls _ _ i1 i2 i3 i4 hI hS (lv_sub hl [0, 1, 2, 3, 4] rfl)
      · refine lv_iconst (v := 3) hx hb dMeanings_attribute_122 (by decide) ?_
        exact hE _ _ _ _ _ hS ⟨trivial, hI⟩ dMeanings_attribute_123
  refine lv_iload_n hx hb dMeanings_attribute_0 rfl (lv_at hl 1 rfl) ?_
  refine lv_iconst (v := 1) hx hb dMeanings_attribute_1 (by decide) ?_
  refine lv_isub hx hb dMeanings_attribute_2 ?_
  refine lv_topi (fun v30 ev30 => ?_)
  refine lv_istore_n (lv' := [(2, .int v30), (0, .ref (γ.2.2.2 12)), (1, .int x1)]) hx hb dMeanings_attribute_3 rfl hl (by decide) rfl (fun ls hl => ?_)
  refine lv_aload_n hx hb dMeanings_attribute_4 rfl (lv_at hl 1 rfl) ?_
  refine of_get S hC (of_12_0 hI) in_Meanings rfl (by decide) qw_c54cffb97e dMeanings_attribute_5 ?_
  refine lv_iload_n hx hb dMeanings_attribute_8 rfl (lv_at hl 0 rfl) ?_
  refine pu_Vi (rest := []) S hC (k1_Trees_valueOf l γ A κ v30) meTrees_valueOf qw_b5139988c8 ⟨Nat.le_of_ble_eq_true rfl, Nat.le_of_ble_eq_true rfl⟩ (rv_1 hC hI) hI rfl hl.1 rfl (Nat.le_of_ble_eq_true rfl) dMeanings_attribute_9 ⟨Nat.zero_le _, Nat.zero_le _⟩ (fun r31 hr31 => ?_)
  refine lv_istore_n (lv' := [(3, .int r31), (2, .int v30), (0, .ref (γ.2.2.2 12)), (1, .int x1)]) hx hb dMeanings_attribute_12 rfl hl (by decide) rfl (fun ls hl => ?_)
  refine lv_aload_n hx hb dMeanings_attribute_13 rfl (lv_at hl 2 rfl) ?_
  refine of_get S hC (of_12_0 hI) in_Meanings rfl (by decide) qw_c54cffb97e dMeanings_attribute_14 ?_
  refine lv_iload_n hx hb dMeanings_attribute_17 rfl (lv_at hl 3 rfl) ?_
  refine pu_Vi (rest := []) S hC (k1_Trees_countOf l γ A κ x1) meTrees_countOf qw_08981d77a7 ⟨Nat.le_of_ble_eq_true rfl, Nat.le_of_ble_eq_true rfl⟩ (rv_1 hC hI) hI rfl hl.1 rfl (Nat.le_of_ble_eq_true rfl) dMeanings_attribute_18 ⟨Nat.zero_le _, Nat.zero_le _⟩ (fun r32 hr32 => ?_)
  refine lv_iconst (v := 1) hx hb dMeanings_attribute_21 (by decide) ?_
  refine lv_icmp_ne (tgt := 60) hx hb dMeanings_attribute_22 (by decide) (fun c33 => ?_) (fun c33 => ?_)
  · refine lv_bipush (v := 11) hx hb dMeanings_attribute_60 (by decide) ?_
    exact hE _ _ _ _ _ hS ⟨trivial, hI⟩ dMeanings_attribute_62
  · refine lv_aload_n hx hb dMeanings_attribute_25 rfl (lv_at hl 2 rfl) ?_
    refine of_get S hC (of_12_0 hI) in_Meanings rfl (by decide) qw_c54cffb97e dMeanings_attribute_26 ?_
    refine lv_iload_n hx hb dMeanings_attribute_29 rfl (lv_at hl 1 rfl) ?_
    refine pu_Vi (rest := []) S hC (k1_Trees_kindOf l γ A κ v30) meTrees_kindOf qw_6dd2778f5c ⟨Nat.le_of_ble_eq_true rfl, Nat.le_of_ble_eq_true rfl⟩ (rv_1 hC hI) hI rfl hl.1 rfl (Nat.le_of_ble_eq_true rfl) dMeanings_attribute_30 ⟨Nat.zero_le _, Nat.zero_le _⟩ (fun r34 hr34 => ?_)
    refine lv_iconst (v := 1) hx hb dMeanings_attribute_33 (by decide) ?_
    refine lv_icmp_ne (tgt := 60) hx hb dMeanings_attribute_34 (by decide) (fun c35 => ?_) (fun c35 => ?_)
    · refine lv_bipush (v := 11) hx hb dMeanings_attribute_60 (by decide) ?_
      exact hE _ _ _ _ _ hS ⟨trivial, hI⟩ dMeanings_attribute_62
    · refine lv_aload_n hx hb dMeanings_attribute_37 rfl (lv_at hl 2 rfl) ?_
      refine of_get S hC (of_12_0 hI) in_Meanings rfl (by decide) qw_c54cffb97e dMeanings_attribute_38 ?_
      refine lv_iload_n hx hb dMeanings_attribute_41 rfl (lv_at hl 1 rfl) ?_
      refine pu_Vi (rest := []) S hC (k1_Trees_countOf l γ A κ v30) meTrees_countOf qw_08981d77a7 ⟨Nat.le_of_ble_eq_true rfl, Nat.le_of_ble_eq_true rfl⟩ (rv_1 hC hI) hI rfl hl.1 rfl (Nat.le_of_ble_eq_true rfl) dMeanings_attribute_42 ⟨Nat.zero_le _, Nat.zero_le _⟩ (fun r36 hr36 => ?_)
      refine lv_if_ne (tgt := 60) hx hb dMeanings_attribute_45 (by decide) (fun c37 => ?_) (fun c37 => ?_)
      · refine lv_bipush (v := 11) hx hb dMeanings_attribute_60 (by decide) ?_
        exact hE _ _ _ _ _ hS ⟨trivial, hI⟩ dMeanings_attribute_62
      · refine lv_iload_n hx hb dMeanings_attribute_48 rfl (lv_at hl 0 rfl) ?_
        refine lv_bipush (v := 15) hx hb dMeanings_attribute_49 (by decide) ?_
        refine lv_icmp_lt (tgt := 60) hx hb dMeanings_attribute_51 (by decide) (fun c38 => ?_) (fun c38 => ?_)
        · refine lv_bipush (v := 11) hx hb dMeanings_attribute_60 (by decide) ?_
          exact hE _ _ _ _ _ hS ⟨trivial, hI⟩ dMeanings_attribute_62
        · refine lv_iload_n hx hb dMeanings_attribute_54 rfl (lv_at hl 0 rfl) ?_
          refine lv_bipush (v := 22) hx hb dMeanings_attribute_55 (by decide) ?_
          refine lv_icmp_le (tgt := 63) hx hb dMeanings_attribute_57 (by decide) (fun c39 => ?_) (fun c39 => ?_)
          · refine lv_aload_n hx hb dMeanings_attribute_63 rfl (lv_at hl 2 rfl) ?_
            refine lv_iload_n hx hb dMeanings_attribute_64 rfl (lv_at hl 3 rfl) ?_
            refine pu_Vi (rest := []) S hC (k_Meanings_isUnknown l γ A κ x1) meMeanings_isUnknown qw_88d34ce9ff ⟨Nat.le_of_ble_eq_true rfl, Nat.le_of_ble_eq_true rfl⟩ (rv_12 hC hI) hI rfl hl.1 rfl (Nat.le_of_ble_eq_true rfl) dMeanings_attribute_65 ⟨Nat.zero_le _, Nat.zero_le _⟩ (fun r40 hr40 => ?_)
            refine lv_if_eq (tgt := 73) hx hb dMeanings_attribute_68 (by decide) (fun c41 => ?_) (fun c41 => ?_)
            · refine lv_aload_n hx hb dMeanings_attribute_73 rfl (lv_at hl 2 rfl) ?_
              refine lv_iload_n hx hb dMeanings_attribute_74 rfl (lv_at hl 3 rfl) ?_
              refine pu_Vi (rest := []) S hC (k_Meanings_objectAt l γ A κ x1) meMeanings_objectAt qw_1c1a520089 ⟨Nat.le_of_ble_eq_true rfl, Nat.le_of_ble_eq_true rfl⟩ (rv_12 hC hI) hI rfl hl.1 rfl (Nat.le_of_ble_eq_true rfl) dMeanings_attribute_75 ⟨Nat.zero_le _, Nat.zero_le _⟩ (fun r42 hr42 => ?_)
              refine lv_istore (lv' := [(4, .int r42), (3, .int r31), (2, .int v30), (0, .ref (γ.2.2.2 12)), (1, .int x1)]) hx hb dMeanings_attribute_78 hl (by decide) rfl (fun ls hl => ?_)
              refine lv_iload hx hb dMeanings_attribute_80 (lv_at hl 0 rfl) ?_
              refine lv_iconst (v := (-1)) hx hb dMeanings_attribute_82 (by decide) ?_
              refine lv_icmp_eq (tgt := 105) hx hb dMeanings_attribute_83 (by decide) (fun c43 => ?_) (fun c43 => ?_)
              · refine lv_iconst (v := 2) hx hb dMeanings_attribute_105 (by decide) ?_
                exact hE _ _ _ _ _ hS ⟨trivial, hI⟩ dMeanings_attribute_106
              · refine lv_iload_n hx hb dMeanings_attribute_86 rfl (lv_at hl 1 rfl) ?_
                refine lv_bipush (v := 17) hx hb dMeanings_attribute_87 (by decide) ?_
                refine lv_icmp_gt (tgt := 107) hx hb dMeanings_attribute_89 (by decide) (fun c44 => ?_) (fun c44 => ?_)
                · exact J107 ls _ _ x1 v30 r31 r42 hI hS (lv_sub hl [3, 4, 2, 1, 0] rfl)
                · refine lv_aload_n hx hb dMeanings_attribute_92 rfl (lv_at hl 3 rfl) ?_
                  refine of_get S hC (of_12_3 hI) in_Meanings rfl (by decide) qw_9bfdade5f5 dMeanings_attribute_93 ?_
                  refine lv_iload hx hb dMeanings_attribute_96 (lv_at hl 0 rfl) ?_
                  refine pu_Vi (rest := []) S hC (k4_Objects_whatOf l γ A κ r42) meObjects_whatOf qw_2c7313498c ⟨Nat.le_of_ble_eq_true rfl, Nat.le_of_ble_eq_true rfl⟩ (rv_4 hC hI) hI rfl hl.1 rfl (Nat.le_of_ble_eq_true rfl) dMeanings_attribute_98 ⟨Nat.zero_le _, Nat.zero_le _⟩ (fun r45 hr45 => ?_)
                  refine lv_iconst (v := 1) hx hb dMeanings_attribute_101 (by decide) ?_
                  refine lv_icmp_eq (tgt := 107) hx hb dMeanings_attribute_102 (by decide) (fun c46 => ?_) (fun c46 => ?_)
                  · exact J107 ls _ _ x1 v30 r31 r42 hI hS (lv_sub hl [3, 4, 2, 1, 0] rfl)
                  · refine lv_iconst (v := 2) hx hb dMeanings_attribute_105 (by decide) ?_
                    exact hE _ _ _ _ _ hS ⟨trivial, hI⟩ dMeanings_attribute_106
            · refine lv_iconst (v := 1) hx hb dMeanings_attribute_71 (by decide) ?_
              exact hE _ _ _ _ _ hS ⟨trivial, hI⟩ dMeanings_attribute_72
          · refine lv_bipush (v := 11) hx hb dMeanings_attribute_60 (by decide) ?_
            exact hE _ _ _ _ _ hS ⟨trivial, hI⟩ dMeanings_attribute_62
